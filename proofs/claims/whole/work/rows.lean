section
-- ===== PART A: goes FIRST, ahead of the names: the tables' words, and 'selects' of the private methods out of them =====
/-- a private method of a class that the tables say can be made, by its rows of tables_1 -/
def lw_okq (q : MethodName × Nat) : Prop := (q.1.cls ≠ "java/lang/invoke/MethodHandle" ∧ q.1.cls ≠ "java/lang/invoke/VarHandle") ∧ Cond.instantiable q.1.cls q.2 ∈ tables_1 ∧ Cond.privateMethod q.1 ∈ tables_1 ∧ Cond.instanceMethod q.1 ∈ tables_1
theorem lw_p0 : lw_okq (⟨"SandboxTree", "actionAt", "(I)LSandboxTree$Action;"⟩, 6) := ⟨⟨by decide +kernel, by decide +kernel⟩, List.mem_of_getElem? (i := 10) (by decide +kernel), List.mem_of_getElem? (i := 213) (by decide +kernel), List.mem_of_getElem? (i := 214) (by decide +kernel)⟩
theorem lw_p1 : lw_okq (⟨"SandboxTree", "touchesDeclared", "(LSandboxTree$Action;I)Z"⟩, 6) := ⟨⟨by decide +kernel, by decide +kernel⟩, List.mem_of_getElem? (i := 10) (by decide +kernel), List.mem_of_getElem? (i := 217) (by decide +kernel), List.mem_of_getElem? (i := 218) (by decide +kernel)⟩
theorem lw_p2 : lw_okq (⟨"SandboxTree", "lacksInput", "(LSandboxTree$Action;)Z"⟩, 6) := ⟨⟨by decide +kernel, by decide +kernel⟩, List.mem_of_getElem? (i := 10) (by decide +kernel), List.mem_of_getElem? (i := 234) (by decide +kernel), List.mem_of_getElem? (i := 235) (by decide +kernel)⟩
theorem lw_p3 : lw_okq (⟨"SandboxTree", "underDeclared", "(LSandboxTree$Action;Z)J"⟩, 6) := ⟨⟨by decide +kernel, by decide +kernel⟩, List.mem_of_getElem? (i := 10) (by decide +kernel), List.mem_of_getElem? (i := 246) (by decide +kernel), List.mem_of_getElem? (i := 247) (by decide +kernel)⟩
theorem lw_p4 : lw_okq (⟨"SandboxTree", "runningAt", "(I)LSandboxTree$Action;"⟩, 6) := ⟨⟨by decide +kernel, by decide +kernel⟩, List.mem_of_getElem? (i := 10) (by decide +kernel), List.mem_of_getElem? (i := 267) (by decide +kernel), List.mem_of_getElem? (i := 268) (by decide +kernel)⟩
theorem lw_p5 : lw_okq (⟨"SandboxTree", "canPut", "(LSandboxTree$Action;I)Z"⟩, 6) := ⟨⟨by decide +kernel, by decide +kernel⟩, List.mem_of_getElem? (i := 10) (by decide +kernel), List.mem_of_getElem? (i := 285) (by decide +kernel), List.mem_of_getElem? (i := 286) (by decide +kernel)⟩
theorem lw_p6 : lw_okq (⟨"SandboxTree", "writable", "(LSandboxTree$Action;)J"⟩, 6) := ⟨⟨by decide +kernel, by decide +kernel⟩, List.mem_of_getElem? (i := 10) (by decide +kernel), List.mem_of_getElem? (i := 289) (by decide +kernel), List.mem_of_getElem? (i := 290) (by decide +kernel)⟩
theorem lw_p7 : lw_okq (⟨"SandboxTree", "scratch", "(LSandboxTree$Action;)J"⟩, 6) := ⟨⟨by decide +kernel, by decide +kernel⟩, List.mem_of_getElem? (i := 10) (by decide +kernel), List.mem_of_getElem? (i := 293) (by decide +kernel), List.mem_of_getElem? (i := 294) (by decide +kernel)⟩
theorem lw_p8 : lw_okq (⟨"SandboxTree", "refuse", "(LSandboxTree$Action;)I"⟩, 6) := ⟨⟨by decide +kernel, by decide +kernel⟩, List.mem_of_getElem? (i := 10) (by decide +kernel), List.mem_of_getElem? (i := 298) (by decide +kernel), List.mem_of_getElem? (i := 299) (by decide +kernel)⟩
theorem lw_p9 : lw_okq (⟨"SandboxTree", "firstOutputFault", "(LSandboxTree$Action;)I"⟩, 6) := ⟨⟨by decide +kernel, by decide +kernel⟩, List.mem_of_getElem? (i := 10) (by decide +kernel), List.mem_of_getElem? (i := 326) (by decide +kernel), List.mem_of_getElem? (i := 327) (by decide +kernel)⟩
theorem lw_p10 : lw_okq (⟨"SandboxTree", "gather", "(LSandboxTree$Action;)I"⟩, 6) := ⟨⟨by decide +kernel, by decide +kernel⟩, List.mem_of_getElem? (i := 10) (by decide +kernel), List.mem_of_getElem? (i := 335) (by decide +kernel), List.mem_of_getElem? (i := 336) (by decide +kernel)⟩
theorem lw_p11 : lw_okq (⟨"SandboxTreeModel", "isPath", "(I)Z"⟩, 21) := ⟨⟨by decide +kernel, by decide +kernel⟩, List.mem_of_getElem? (i := 359) (by decide +kernel), List.mem_of_getElem? (i := 433) (by decide +kernel), List.mem_of_getElem? (i := 434) (by decide +kernel)⟩
theorem lw_p12 : lw_okq (⟨"SandboxTreeModel", "child", "(II)I"⟩, 21) := ⟨⟨by decide +kernel, by decide +kernel⟩, List.mem_of_getElem? (i := 359) (by decide +kernel), List.mem_of_getElem? (i := 440) (by decide +kernel), List.mem_of_getElem? (i := 441) (by decide +kernel)⟩
theorem lw_p13 : lw_okq (⟨"SandboxTreeModel", "isUnder", "(II)Z"⟩, 21) := ⟨⟨by decide +kernel, by decide +kernel⟩, List.mem_of_getElem? (i := 359) (by decide +kernel), List.mem_of_getElem? (i := 448) (by decide +kernel), List.mem_of_getElem? (i := 449) (by decide +kernel)⟩
theorem lw_p14 : lw_okq (⟨"SandboxTreeModel", "isAction", "(I)Z"⟩, 21) := ⟨⟨by decide +kernel, by decide +kernel⟩, List.mem_of_getElem? (i := 359) (by decide +kernel), List.mem_of_getElem? (i := 464) (by decide +kernel), List.mem_of_getElem? (i := 465) (by decide +kernel)⟩
theorem lw_p15 : lw_okq (⟨"SandboxTreeModel", "isDeclared", "(IIZ)Z"⟩, 21) := ⟨⟨by decide +kernel, by decide +kernel⟩, List.mem_of_getElem? (i := 359) (by decide +kernel), List.mem_of_getElem? (i := 476) (by decide +kernel), List.mem_of_getElem? (i := 477) (by decide +kernel)⟩
def lw_privs_1 : List (MethodName × Nat) := [(⟨"SandboxTree", "actionAt", "(I)LSandboxTree$Action;"⟩, 6), (⟨"SandboxTree", "touchesDeclared", "(LSandboxTree$Action;I)Z"⟩, 6), (⟨"SandboxTree", "lacksInput", "(LSandboxTree$Action;)Z"⟩, 6), (⟨"SandboxTree", "underDeclared", "(LSandboxTree$Action;Z)J"⟩, 6), (⟨"SandboxTree", "runningAt", "(I)LSandboxTree$Action;"⟩, 6), (⟨"SandboxTree", "canPut", "(LSandboxTree$Action;I)Z"⟩, 6), (⟨"SandboxTree", "writable", "(LSandboxTree$Action;)J"⟩, 6), (⟨"SandboxTree", "scratch", "(LSandboxTree$Action;)J"⟩, 6), (⟨"SandboxTree", "refuse", "(LSandboxTree$Action;)I"⟩, 6), (⟨"SandboxTree", "firstOutputFault", "(LSandboxTree$Action;)I"⟩, 6), (⟨"SandboxTree", "gather", "(LSandboxTree$Action;)I"⟩, 6), (⟨"SandboxTreeModel", "isPath", "(I)Z"⟩, 21), (⟨"SandboxTreeModel", "child", "(II)I"⟩, 21), (⟨"SandboxTreeModel", "isUnder", "(II)Z"⟩, 21), (⟨"SandboxTreeModel", "isAction", "(I)Z"⟩, 21), (⟨"SandboxTreeModel", "isDeclared", "(IIZ)Z"⟩, 21)]
theorem lw_r1 : ∀ q ∈ lw_privs_1, lw_okq q := List.forall_mem_cons.mpr ⟨lw_p0, List.forall_mem_cons.mpr ⟨lw_p1, List.forall_mem_cons.mpr ⟨lw_p2, List.forall_mem_cons.mpr ⟨lw_p3, List.forall_mem_cons.mpr ⟨lw_p4, List.forall_mem_cons.mpr ⟨lw_p5, List.forall_mem_cons.mpr ⟨lw_p6, List.forall_mem_cons.mpr ⟨lw_p7, List.forall_mem_cons.mpr ⟨lw_p8, List.forall_mem_cons.mpr ⟨lw_p9, List.forall_mem_cons.mpr ⟨lw_p10, List.forall_mem_cons.mpr ⟨lw_p11, List.forall_mem_cons.mpr ⟨lw_p12, List.forall_mem_cons.mpr ⟨lw_p13, List.forall_mem_cons.mpr ⟨lw_p14, List.forall_mem_cons.mpr ⟨lw_p15, fun _ h => absurd h List.not_mem_nil⟩⟩⟩⟩⟩⟩⟩⟩⟩⟩⟩⟩⟩⟩⟩⟩
theorem lw_p16 : lw_okq (⟨"SandboxTreeModel", "may", "(III)I"⟩, 21) := ⟨⟨by decide +kernel, by decide +kernel⟩, List.mem_of_getElem? (i := 359) (by decide +kernel), List.mem_of_getElem? (i := 484) (by decide +kernel), List.mem_of_getElem? (i := 485) (by decide +kernel)⟩
theorem lw_p17 : lw_okq (⟨"SandboxTreeModel", "leads", "(II)I"⟩, 21) := ⟨⟨by decide +kernel, by decide +kernel⟩, List.mem_of_getElem? (i := 359) (by decide +kernel), List.mem_of_getElem? (i := 488) (by decide +kernel), List.mem_of_getElem? (i := 489) (by decide +kernel)⟩
theorem lw_p18 : lw_okq (⟨"SandboxTreeModel", "at", "(II)I"⟩, 21) := ⟨⟨by decide +kernel, by decide +kernel⟩, List.mem_of_getElem? (i := 359) (by decide +kernel), List.mem_of_getElem? (i := 492) (by decide +kernel), List.mem_of_getElem? (i := 493) (by decide +kernel)⟩
theorem lw_p19 : lw_okq (⟨"SandboxTreeModel", "isWritable", "(II)Z"⟩, 21) := ⟨⟨by decide +kernel, by decide +kernel⟩, List.mem_of_getElem? (i := 359) (by decide +kernel), List.mem_of_getElem? (i := 503) (by decide +kernel), List.mem_of_getElem? (i := 504) (by decide +kernel)⟩
theorem lw_p20 : lw_okq (⟨"SandboxTreeModel", "isInWay", "(II)Z"⟩, 21) := ⟨⟨by decide +kernel, by decide +kernel⟩, List.mem_of_getElem? (i := 359) (by decide +kernel), List.mem_of_getElem? (i := 507) (by decide +kernel), List.mem_of_getElem? (i := 508) (by decide +kernel)⟩
theorem lw_p21 : lw_okq (⟨"SandboxTreeModel", "refuse", "(I)I"⟩, 21) := ⟨⟨by decide +kernel, by decide +kernel⟩, List.mem_of_getElem? (i := 359) (by decide +kernel), List.mem_of_getElem? (i := 511) (by decide +kernel), List.mem_of_getElem? (i := 512) (by decide +kernel)⟩
theorem lw_p22 : lw_okq (⟨"SandboxTreeModel", "hasUnder", "(II)Z"⟩, 21) := ⟨⟨by decide +kernel, by decide +kernel⟩, List.mem_of_getElem? (i := 359) (by decide +kernel), List.mem_of_getElem? (i := 527) (by decide +kernel), List.mem_of_getElem? (i := 528) (by decide +kernel)⟩
theorem lw_p23 : lw_okq (⟨"SandboxTreeModel", "ended", "(IZ)I"⟩, 21) := ⟨⟨by decide +kernel, by decide +kernel⟩, List.mem_of_getElem? (i := 359) (by decide +kernel), List.mem_of_getElem? (i := 535) (by decide +kernel), List.mem_of_getElem? (i := 536) (by decide +kernel)⟩
theorem lw_p24 : lw_okq (⟨"SandboxTreeModel", "isLoose", "(II)Z"⟩, 21) := ⟨⟨by decide +kernel, by decide +kernel⟩, List.mem_of_getElem? (i := 359) (by decide +kernel), List.mem_of_getElem? (i := 539) (by decide +kernel), List.mem_of_getElem? (i := 540) (by decide +kernel)⟩
theorem lw_p25 : lw_okq (⟨"SandboxTreeModel", "mark", "(I)V"⟩, 21) := ⟨⟨by decide +kernel, by decide +kernel⟩, List.mem_of_getElem? (i := 359) (by decide +kernel), List.mem_of_getElem? (i := 543) (by decide +kernel), List.mem_of_getElem? (i := 544) (by decide +kernel)⟩
theorem lw_p26 : lw_okq (⟨"SandboxTreeModel", "clashes", "()Z"⟩, 21) := ⟨⟨by decide +kernel, by decide +kernel⟩, List.mem_of_getElem? (i := 359) (by decide +kernel), List.mem_of_getElem? (i := 547) (by decide +kernel), List.mem_of_getElem? (i := 548) (by decide +kernel)⟩
def lw_privs_2 : List (MethodName × Nat) := [(⟨"SandboxTreeModel", "may", "(III)I"⟩, 21), (⟨"SandboxTreeModel", "leads", "(II)I"⟩, 21), (⟨"SandboxTreeModel", "at", "(II)I"⟩, 21), (⟨"SandboxTreeModel", "isWritable", "(II)Z"⟩, 21), (⟨"SandboxTreeModel", "isInWay", "(II)Z"⟩, 21), (⟨"SandboxTreeModel", "refuse", "(I)I"⟩, 21), (⟨"SandboxTreeModel", "hasUnder", "(II)Z"⟩, 21), (⟨"SandboxTreeModel", "ended", "(IZ)I"⟩, 21), (⟨"SandboxTreeModel", "isLoose", "(II)Z"⟩, 21), (⟨"SandboxTreeModel", "mark", "(I)V"⟩, 21), (⟨"SandboxTreeModel", "clashes", "()Z"⟩, 21)]
theorem lw_r2 : ∀ q ∈ lw_privs_2, lw_okq q := List.forall_mem_cons.mpr ⟨lw_p16, List.forall_mem_cons.mpr ⟨lw_p17, List.forall_mem_cons.mpr ⟨lw_p18, List.forall_mem_cons.mpr ⟨lw_p19, List.forall_mem_cons.mpr ⟨lw_p20, List.forall_mem_cons.mpr ⟨lw_p21, List.forall_mem_cons.mpr ⟨lw_p22, List.forall_mem_cons.mpr ⟨lw_p23, List.forall_mem_cons.mpr ⟨lw_p24, List.forall_mem_cons.mpr ⟨lw_p25, List.forall_mem_cons.mpr ⟨lw_p26, fun _ h => absurd h List.not_mem_nil⟩⟩⟩⟩⟩⟩⟩⟩⟩⟩⟩
def lw_privs : List (MethodName × Nat) := lw_privs_1 ++ (lw_privs_2)
def lw_tbl : List Cond := k2_sels lw_privs ++ tables_1
theorem lw_privs_ok : ∀ q ∈ lw_privs, lw_okq q := by
  show ∀ q ∈ lw_privs_1 ++ (lw_privs_2), lw_okq q
  exact List.forall_mem_append.mpr ⟨lw_r1, lw_r2⟩
end
section
/-! Names: classes, fields, methods; the words of the tables by their places; a row decodes each instruction. Written by wip/whole/gen/names.py. -/
def R_A : String := "SandboxTree$Action"
def R_P : String := "SandboxTree$PathTree"
def R_S : String := "SandboxTree$Store"
def R_X : String := "SandboxTree"
def R_M : String := "SandboxTreeModel"
def R_L : String := "SandboxTreeLaw"
def R_J : String := "java/lang/Long"
def T_A : u_T := fun k => match k with
  | 0 => ("SandboxTree$Action", "declaredPaths", "[I", true)
  | 1 => ("SandboxTree$Action", "isOutput", "[Z", true)
  | 2 => ("SandboxTree$Action", "declaredCount", "I", false)
  | 3 => ("SandboxTree$Action", "world", "LSandboxTree$Store;", true)
  | 4 => ("SandboxTree$Action", "worldThere", "Z", false)
  | 5 => ("SandboxTree$Action", "hadWorld", "Z", false)
  | 6 => ("SandboxTree$Action", "broken", "Z", false)
  | 7 => ("SandboxTree$Action", "operations", "I", false)
  | 8 => ("SandboxTree$Action", "refused", "I", false)
  | 9 => ("SandboxTree$Action", "triedPaths", "[I", true)
  | 10 => ("SandboxTree$Action", "triedCount", "I", false)
  | _ => ("SandboxTree$Action", "triedSet", "J", false)
def t_A : Nat → FieldType := fun k => match k with
  | 0 => .array .int
  | 1 => .array .boolean
  | 2 => .int
  | 3 => .object "SandboxTree$Store"
  | 4 => .boolean
  | 5 => .boolean
  | 6 => .boolean
  | 7 => .int
  | 8 => .int
  | 9 => .array .int
  | 10 => .int
  | _ => .long
theorem n_A : ∀ a, a < 12 → ∀ b, b < 12 → a ≠ b → (T_A a).2.1 ≠ (T_A b).2.1 := by decide +kernel
theorem o_A : ∀ k, k < 12 → parseFieldDescriptor (T_A k).2.2.1 = some (t_A k) := by decide +kernel
def T_P : u_T := fun k => match k with
  | 0 => ("SandboxTree$PathTree", "parents", "[I", true)
  | 1 => ("SandboxTree$PathTree", "letters", "[C", true)
  | 2 => ("SandboxTree$PathTree", "aboveSets", "[J", true)
  | 3 => ("SandboxTree$PathTree", "underSets", "[J", true)
  | _ => ("SandboxTree$PathTree", "count", "I", false)
def t_P : Nat → FieldType := fun k => match k with
  | 0 => .array .int
  | 1 => .array .char
  | 2 => .array .long
  | 3 => .array .long
  | _ => .int
theorem n_P : ∀ a, a < 5 → ∀ b, b < 5 → a ≠ b → (T_P a).2.1 ≠ (T_P b).2.1 := by decide +kernel
theorem o_P : ∀ k, k < 5 → parseFieldDescriptor (T_P k).2.2.1 = some (t_P k) := by decide +kernel
def T_S : u_T := fun k => match k with
  | 0 => ("SandboxTree$Store", "values", "[I", true)
  | 1 => ("SandboxTree$Store", "files", "J", false)
  | _ => ("SandboxTree$Store", "links", "J", false)
def t_S : Nat → FieldType := fun k => match k with
  | 0 => .array .int
  | 1 => .long
  | _ => .long
theorem n_S : ∀ a, a < 3 → ∀ b, b < 3 → a ≠ b → (T_S a).2.1 ≠ (T_S b).2.1 := by decide +kernel
theorem o_S : ∀ k, k < 3 → parseFieldDescriptor (T_S k).2.2.1 = some (t_S k) := by decide +kernel
def T_X : u_T := fun k => match k with
  | 0 => ("SandboxTree", "limit", "I", true)
  | 1 => ("SandboxTree", "paths", "LSandboxTree$PathTree;", true)
  | 2 => ("SandboxTree", "sourceFiles", "LSandboxTree$Store;", true)
  | 3 => ("SandboxTree", "actions", "[LSandboxTree$Action;", true)
  | 4 => ("SandboxTree", "actionCount", "I", false)
  | _ => ("SandboxTree", "strictNow", "Z", false)
def t_X : Nat → FieldType := fun k => match k with
  | 0 => .int
  | 1 => .object "SandboxTree$PathTree"
  | 2 => .object "SandboxTree$Store"
  | 3 => .array (.object "SandboxTree$Action")
  | 4 => .int
  | _ => .boolean
theorem n_X : ∀ a, a < 6 → ∀ b, b < 6 → a ≠ b → (T_X a).2.1 ≠ (T_X b).2.1 := by decide +kernel
theorem o_X : ∀ k, k < 6 → parseFieldDescriptor (T_X k).2.2.1 = some (t_X k) := by decide +kernel
def T_M : u_T := fun k => match k with
  | 0 => ("SandboxTreeModel", "most", "I", true)
  | 1 => ("SandboxTreeModel", "code", "I", false)
  | 2 => ("SandboxTreeModel", "paths", "I", false)
  | 3 => ("SandboxTreeModel", "actions", "I", false)
  | 4 => ("SandboxTreeModel", "isStrict", "Z", false)
  | 5 => ("SandboxTreeModel", "parent", "[I", true)
  | 6 => ("SandboxTreeModel", "letter", "[I", true)
  | 7 => ("SandboxTreeModel", "source", "[I", true)
  | 8 => ("SandboxTreeModel", "come", "[I", true)
  | 9 => ("SandboxTreeModel", "declared", "[I", true)
  | 10 => ("SandboxTreeModel", "declaredPath", "[I", true)
  | 11 => ("SandboxTreeModel", "operations", "[I", true)
  | 12 => ("SandboxTreeModel", "refusals", "[I", true)
  | 13 => ("SandboxTreeModel", "triedMany", "[I", true)
  | 14 => ("SandboxTreeModel", "tried", "[I", true)
  | 15 => ("SandboxTreeModel", "world", "[I", true)
  | 16 => ("SandboxTreeModel", "isOutput", "[Z", true)
  | 17 => ("SandboxTreeModel", "isThere", "[Z", true)
  | 18 => ("SandboxTreeModel", "isBroken", "[Z", true)
  | 19 => ("SandboxTreeModel", "wasThere", "[Z", true)
  | _ => ("SandboxTreeModel", "marked", "[Z", true)
def t_M : Nat → FieldType := fun k => match k with
  | 0 => .int
  | 1 => .int
  | 2 => .int
  | 3 => .int
  | 4 => .boolean
  | 5 => .array .int
  | 6 => .array .int
  | 7 => .array .int
  | 8 => .array .int
  | 9 => .array .int
  | 10 => .array .int
  | 11 => .array .int
  | 12 => .array .int
  | 13 => .array .int
  | 14 => .array .int
  | 15 => .array .int
  | 16 => .array .boolean
  | 17 => .array .boolean
  | 18 => .array .boolean
  | 19 => .array .boolean
  | _ => .array .boolean
theorem n_M : ∀ a, a < 21 → ∀ b, b < 21 → a ≠ b → (T_M a).2.1 ≠ (T_M b).2.1 := by decide +kernel
theorem o_M : ∀ k, k < 21 → parseFieldDescriptor (T_M k).2.2.1 = some (t_M k) := by decide +kernel
abbrev vwCl : List vw_C := [(R_A, T_A, 12), (R_P, T_P, 5), (R_S, T_S, 3), (R_X, T_X, 6), (R_M, T_M, 21)]
abbrev b_X_init : ByteArray := prog_1_method_1_code
def y_X_init : MethodName := ⟨R_X, "<init>", "(I)V"⟩
abbrev b_P_init : ByteArray := prog_3_method_1_code
def y_P_init : MethodName := ⟨R_P, "<init>", "()V"⟩
abbrev b_X_only : ByteArray := prog_1_method_29_code
def y_X_only : MethodName := ⟨R_X, "only", "(I)J"⟩
abbrev b_S_init : ByteArray := prog_4_method_1_code
def y_S_init : MethodName := ⟨R_S, "<init>", "()V"⟩
abbrev b_X_path : ByteArray := prog_1_method_2_code
def y_X_path : MethodName := ⟨R_X, "path", "(IC)I"⟩
abbrev b_P_has : ByteArray := prog_3_method_2_code
def y_P_has : MethodName := ⟨R_P, "has", "(I)Z"⟩
abbrev b_X_isLetter : ByteArray := prog_1_method_28_code
def y_X_isLetter : MethodName := ⟨R_X, "isLetter", "(C)Z"⟩
abbrev b_P_find : ByteArray := prog_3_method_3_code
def y_P_find : MethodName := ⟨R_P, "find", "(IC)I"⟩
abbrev b_P_add : ByteArray := prog_3_method_4_code
def y_P_add : MethodName := ⟨R_P, "add", "(IC)I"⟩
abbrev b_X_holds : ByteArray := prog_1_method_30_code
def y_X_holds : MethodName := ⟨R_X, "holds", "(JI)Z"⟩
abbrev b_X_file : ByteArray := prog_1_method_3_code
def y_X_file : MethodName := ⟨R_X, "file", "(II)Z"⟩
abbrev b_P_inTheWayOf : ByteArray := prog_3_method_6_code
def y_P_inTheWayOf : MethodName := ⟨R_P, "inTheWayOf", "(I)J"⟩
abbrev b_S_taken : ByteArray := prog_4_method_2_code
def y_S_taken : MethodName := ⟨R_S, "taken", "()J"⟩
abbrev b_S_takeAway : ByteArray := prog_4_method_5_code
def y_S_takeAway : MethodName := ⟨R_S, "takeAway", "(I)V"⟩
abbrev b_S_putFile : ByteArray := prog_4_method_3_code
def y_S_putFile : MethodName := ⟨R_S, "putFile", "(II)V"⟩
abbrev b_S_canHold : ByteArray := prog_4_method_9_code
def y_S_canHold : MethodName := ⟨R_S, "canHold", "(I)Z"⟩
abbrev b_X_source : ByteArray := prog_1_method_4_code
def y_X_source : MethodName := ⟨R_X, "source", "(I)I"⟩
abbrev b_S_leadsTo : ByteArray := prog_4_method_7_code
def y_S_leadsTo : MethodName := ⟨R_S, "leadsTo", "(I)I"⟩
abbrev b_X_action : ByteArray := prog_1_method_5_code
def y_X_action : MethodName := ⟨R_X, "action", "()I"⟩
abbrev b_A_init : ByteArray := prog_2_method_1_code
def y_A_init : MethodName := ⟨R_A, "<init>", "()V"⟩
abbrev b_X_declare : ByteArray := prog_1_method_6_code
def y_X_declare : MethodName := ⟨R_X, "declare", "(IIZ)I"⟩
abbrev b_X_actionAt : ByteArray := prog_1_method_17_code
def y_X_actionAt : MethodName := ⟨R_X, "actionAt", "(I)LSandboxTree$Action;"⟩
abbrev b_X_touchesDeclared : ByteArray := prog_1_method_19_code
def y_X_touchesDeclared : MethodName := ⟨R_X, "touchesDeclared", "(LSandboxTree$Action;I)Z"⟩
abbrev b_A_addDeclared : ByteArray := prog_2_method_2_code
def y_A_addDeclared : MethodName := ⟨R_A, "addDeclared", "(IZ)V"⟩
abbrev b_X_strict : ByteArray := prog_1_method_7_code
def y_X_strict : MethodName := ⟨R_X, "strict", "(Z)V"⟩
abbrev b_X_begin : ByteArray := prog_1_method_8_code
def y_X_begin : MethodName := ⟨R_X, "begin", "(I)I"⟩
abbrev b_X_lacksInput : ByteArray := prog_1_method_20_code
def y_X_lacksInput : MethodName := ⟨R_X, "lacksInput", "(LSandboxTree$Action;)Z"⟩
abbrev b_P_under : ByteArray := prog_3_method_5_code
def y_P_under : MethodName := ⟨R_P, "under", "(I)J"⟩
abbrev b_A_startWorld : ByteArray := prog_2_method_3_code
def y_A_startWorld : MethodName := ⟨R_A, "startWorld", "()V"⟩
abbrev b_X_underDeclared : ByteArray := prog_1_method_21_code
def y_X_underDeclared : MethodName := ⟨R_X, "underDeclared", "(LSandboxTree$Action;Z)J"⟩
abbrev b_S_copyFiles : ByteArray := prog_4_method_6_code
def y_S_copyFiles : MethodName := ⟨R_S, "copyFiles", "(LSandboxTree$Store;J)V"⟩
abbrev b_J_bitCount : ByteArray := prog_7_method_50_code
def y_J_bitCount : MethodName := ⟨R_J, "bitCount", "(J)I"⟩
abbrev b_X_open : ByteArray := prog_1_method_9_code
def y_X_open : MethodName := ⟨R_X, "open", "(II)I"⟩
abbrev b_X_runningAt : ByteArray := prog_1_method_18_code
def y_X_runningAt : MethodName := ⟨R_X, "runningAt", "(I)LSandboxTree$Action;"⟩
abbrev b_A_startOperation : ByteArray := prog_2_method_4_code
def y_A_startOperation : MethodName := ⟨R_A, "startOperation", "(I)Z"⟩
abbrev b_A_noteTried : ByteArray := prog_2_method_5_code
def y_A_noteTried : MethodName := ⟨R_A, "noteTried", "(I)V"⟩
abbrev b_X_write : ByteArray := prog_1_method_10_code
def y_X_write : MethodName := ⟨R_X, "write", "(III)I"⟩
abbrev b_X_canPut : ByteArray := prog_1_method_24_code
def y_X_canPut : MethodName := ⟨R_X, "canPut", "(LSandboxTree$Action;I)Z"⟩
abbrev b_X_writable : ByteArray := prog_1_method_22_code
def y_X_writable : MethodName := ⟨R_X, "writable", "(LSandboxTree$Action;)J"⟩
abbrev b_X_scratch : ByteArray := prog_1_method_23_code
def y_X_scratch : MethodName := ⟨R_X, "scratch", "(LSandboxTree$Action;)J"⟩
abbrev b_X_refuse : ByteArray := prog_1_method_25_code
def y_X_refuse : MethodName := ⟨R_X, "refuse", "(LSandboxTree$Action;)I"⟩
abbrev b_X_link : ByteArray := prog_1_method_11_code
def y_X_link : MethodName := ⟨R_X, "link", "(III)I"⟩
abbrev b_S_putLink : ByteArray := prog_4_method_4_code
def y_S_putLink : MethodName := ⟨R_S, "putLink", "(II)V"⟩
abbrev b_X_remove : ByteArray := prog_1_method_12_code
def y_X_remove : MethodName := ⟨R_X, "remove", "(II)I"⟩
abbrev b_X_list : ByteArray := prog_1_method_13_code
def y_X_list : MethodName := ⟨R_X, "list", "(III)I"⟩
abbrev b_P_letterInFolder : ByteArray := prog_3_method_9_code
def y_P_letterInFolder : MethodName := ⟨R_P, "letterInFolder", "(IJI)I"⟩
abbrev b_X_finish : ByteArray := prog_1_method_14_code
def y_X_finish : MethodName := ⟨R_X, "finish", "(IZ)I"⟩
abbrev b_X_firstOutputFault : ByteArray := prog_1_method_26_code
def y_X_firstOutputFault : MethodName := ⟨R_X, "firstOutputFault", "(LSandboxTree$Action;)I"⟩
abbrev b_S_hasLooseLink : ByteArray := prog_4_method_8_code
def y_S_hasLooseLink : MethodName := ⟨R_S, "hasLooseLink", "(J)Z"⟩
abbrev b_X_gather : ByteArray := prog_1_method_27_code
def y_X_gather : MethodName := ⟨R_X, "gather", "(LSandboxTree$Action;)I"⟩
abbrev b_P_withAbove : ByteArray := prog_3_method_7_code
def y_P_withAbove : MethodName := ⟨R_P, "withAbove", "(J)J"⟩
abbrev b_P_hasClash : ByteArray := prog_3_method_8_code
def y_P_hasClash : MethodName := ⟨R_P, "hasClash", "(J)Z"⟩
abbrev b_X_tried : ByteArray := prog_1_method_15_code
def y_X_tried : MethodName := ⟨R_X, "tried", "(II)I"⟩
abbrev b_X_about : ByteArray := prog_1_method_16_code
def y_X_about : MethodName := ⟨R_X, "about", "(II)I"⟩
abbrev b_L_cell : ByteArray := method_2_code
def y_L_cell : MethodName := ⟨R_L, "cell", "([II)I"⟩
abbrev b_M_init : ByteArray := prog_6_method_1_code
def y_M_init : MethodName := ⟨R_M, "<init>", "(I)V"⟩
abbrev b_M_path : ByteArray := prog_6_method_7_code
def y_M_path : MethodName := ⟨R_M, "path", "(IC)I"⟩
abbrev b_M_isPath : ByteArray := prog_6_method_3_code
def y_M_isPath : MethodName := ⟨R_M, "isPath", "(I)Z"⟩
abbrev b_M_lower : ByteArray := prog_6_method_5_code
def y_M_lower : MethodName := ⟨R_M, "lower", "(I)I"⟩
abbrev b_M_child : ByteArray := prog_6_method_6_code
def y_M_child : MethodName := ⟨R_M, "child", "(II)I"⟩
abbrev b_M_file : ByteArray := prog_6_method_9_code
def y_M_file : MethodName := ⟨R_M, "file", "(II)Z"⟩
abbrev b_M_isUnder : ByteArray := prog_6_method_8_code
def y_M_isUnder : MethodName := ⟨R_M, "isUnder", "(II)Z"⟩
abbrev b_M_source : ByteArray := prog_6_method_10_code
def y_M_source : MethodName := ⟨R_M, "source", "(I)I"⟩
abbrev b_M_action : ByteArray := prog_6_method_11_code
def y_M_action : MethodName := ⟨R_M, "action", "()I"⟩
abbrev b_M_declare : ByteArray := prog_6_method_12_code
def y_M_declare : MethodName := ⟨R_M, "declare", "(IIZ)I"⟩
abbrev b_M_isAction : ByteArray := prog_6_method_4_code
def y_M_isAction : MethodName := ⟨R_M, "isAction", "(I)Z"⟩
abbrev b_M_strict : ByteArray := prog_6_method_13_code
def y_M_strict : MethodName := ⟨R_M, "strict", "(Z)V"⟩
abbrev b_M_begin : ByteArray := prog_6_method_16_code
def y_M_begin : MethodName := ⟨R_M, "begin", "(I)I"⟩
abbrev b_M_isDeclared : ByteArray := prog_6_method_14_code
def y_M_isDeclared : MethodName := ⟨R_M, "isDeclared", "(IIZ)Z"⟩
abbrev b_M_open : ByteArray := prog_6_method_23_code
def y_M_open : MethodName := ⟨R_M, "open", "(II)I"⟩
abbrev b_M_may : ByteArray := prog_6_method_20_code
def y_M_may : MethodName := ⟨R_M, "may", "(III)I"⟩
abbrev b_M_leads : ByteArray := prog_6_method_19_code
def y_M_leads : MethodName := ⟨R_M, "leads", "(II)I"⟩
abbrev b_M_at : ByteArray := prog_6_method_17_code
def y_M_at : MethodName := ⟨R_M, "at", "(II)I"⟩
abbrev b_M_goal : ByteArray := prog_6_method_18_code
def y_M_goal : MethodName := ⟨R_M, "goal", "(I)I"⟩
abbrev b_M_write : ByteArray := prog_6_method_24_code
def y_M_write : MethodName := ⟨R_M, "write", "(III)I"⟩
abbrev b_M_isWritable : ByteArray := prog_6_method_15_code
def y_M_isWritable : MethodName := ⟨R_M, "isWritable", "(II)Z"⟩
abbrev b_M_isInWay : ByteArray := prog_6_method_21_code
def y_M_isInWay : MethodName := ⟨R_M, "isInWay", "(II)Z"⟩
abbrev b_M_refuse : ByteArray := prog_6_method_22_code
def y_M_refuse : MethodName := ⟨R_M, "refuse", "(I)I"⟩
abbrev b_M_link : ByteArray := prog_6_method_25_code
def y_M_link : MethodName := ⟨R_M, "link", "(III)I"⟩
abbrev b_M_remove : ByteArray := prog_6_method_26_code
def y_M_remove : MethodName := ⟨R_M, "remove", "(II)I"⟩
abbrev b_M_list : ByteArray := prog_6_method_28_code
def y_M_list : MethodName := ⟨R_M, "list", "(III)I"⟩
abbrev b_M_hasUnder : ByteArray := prog_6_method_27_code
def y_M_hasUnder : MethodName := ⟨R_M, "hasUnder", "(II)Z"⟩
abbrev b_M_finish : ByteArray := prog_6_method_33_code
def y_M_finish : MethodName := ⟨R_M, "finish", "(IZ)I"⟩
abbrev b_M_ended : ByteArray := prog_6_method_32_code
def y_M_ended : MethodName := ⟨R_M, "ended", "(IZ)I"⟩
abbrev b_M_isLoose : ByteArray := prog_6_method_29_code
def y_M_isLoose : MethodName := ⟨R_M, "isLoose", "(II)Z"⟩
abbrev b_M_mark : ByteArray := prog_6_method_30_code
def y_M_mark : MethodName := ⟨R_M, "mark", "(I)V"⟩
abbrev b_M_clashes : ByteArray := prog_6_method_31_code
def y_M_clashes : MethodName := ⟨R_M, "clashes", "()Z"⟩
abbrev b_M_tried : ByteArray := prog_6_method_34_code
def y_M_tried : MethodName := ⟨R_M, "tried", "(II)I"⟩
abbrev b_M_about : ByteArray := prog_6_method_35_code
def y_M_about : MethodName := ⟨R_M, "about", "(II)I"⟩
abbrev b_L_law : ByteArray := code
def y_L_law : MethodName := ⟨R_L, "law", "([I)Z"⟩
def sx_gw : List Cond := lw_tbl.filter goodWord
theorem sx_gw_good {w : Cond} (h : w ∈ sx_gw) : goodWord w = true := (List.mem_filter.mp h).2
theorem sx_gw_tbl {w : Cond} (h : w ∈ sx_gw) : w ∈ lw_tbl := (List.mem_filter.mp h).1
theorem sx_wd {w : Cond} (i : Nat) (h : tables_1[i]? = some w) (g : goodWord w = true) : w ∈ sx_gw := List.mem_filter.mpr ⟨List.mem_append_right _ (List.mem_of_getElem? h), g⟩
theorem sx_wsel {w : Cond} (i : Nat) (h : (k2_sels lw_privs)[i]? = some w) (g : goodWord w = true) : w ∈ sx_gw := List.mem_filter.mpr ⟨List.mem_append_left _ (List.mem_of_getElem? h), g⟩
theorem sx_GI {c' : Cond} (h : c' ∈ sx_gw) : GoodIn sx_gw (c' :: sx_gw) := fun w hw => by
  have hm : w ∈ sx_gw := by
    rcases List.mem_cons.mp hw with e | e
    · rw [e]; exact h
    · exact e
  exact ⟨hm, good_of_word (sx_gw_good hm)⟩
theorem sx_GV {own C : String} {idx : Nat} {y : MethodName} {c' : Cond} (h1 : Cond.methodLink own idx y ∈ sx_gw) (h2 : Cond.instanceMethod y ∈ sx_gw) (h3 : Cond.selects C y y ∈ sx_gw) (h4 : Cond.initialized C ∈ sx_gw) (h : c' ∈ sx_gw) : GoodIn sx_gw (wsV own idx C y (c' :: sx_gw)) := fun w hw => by
  have hm : w ∈ sx_gw := by
    unfold wsV at hw
    rcases List.mem_append.mp hw with e | e
    · simp only [List.mem_cons, List.not_mem_nil, or_false] at e
      rcases e with e | e | e | e <;> rw [e] <;> assumption
    · exact ((sx_GI h) w e).1
  exact ⟨hm, good_of_word (sx_gw_good hm)⟩
theorem sx_GS {own : String} {idx : Nat} {y : MethodName} {c' : Cond} (h1 : Cond.methodLink own idx y ∈ sx_gw) (h2 : Cond.static y ∈ sx_gw) (h4 : Cond.initialized y.cls ∈ sx_gw) (h : c' ∈ sx_gw) : GoodIn sx_gw (va_wsS own idx y (c' :: sx_gw)) := fun w hw => by
  have hm : w ∈ sx_gw := by
    unfold va_wsS at hw
    rcases List.mem_append.mp hw with e | e
    · simp only [List.mem_cons, List.not_mem_nil, or_false] at e
      rcases e with e | e | e <;> rw [e] <;> assumption
    · exact ((sx_GI h) w e).1
  exact ⟨hm, good_of_word (sx_gw_good hm)⟩
def sx_isN : Cond → Bool
  | .fieldLinkNest .. => true
  | .methodLinkNest .. => true
  | _ => false
def sx_nws : List Cond := lw_tbl.filter sx_isN
theorem sx_wn {w : Cond} (i : Nat) (h : tables_1[i]? = some w) (g : sx_isN w = true) : w ∈ sx_nws := List.mem_filter.mpr ⟨List.mem_append_right _ (List.mem_of_getElem? h), g⟩
def sx_NW (U : State) : Prop := ∀ w ∈ sx_nws, va_Nw w U
theorem sx_NW.warm {s U : State} (hW : s.WarmedH U.vm) (h : sx_NW s) : sx_NW U := fun w hw => by
  have hf := (List.mem_filter.mp hw).2
  have h1 := h w hw
  cases w <;> first | exact va_Nw.warmF hW h1 | exact va_Nw.warmM hW h1 | (simp [sx_isN] at hf)
theorem sx_NW.same {u U : State} (hv : u.vm = U.vm) (h : sx_NW u) : sx_NW U := fun w hw => by
  have hf := (List.mem_filter.mp hw).2
  have h1 := h w hw
  cases w <;> first | exact va_Nw.same rfl hv h1 | (simp [sx_isN] at hf)
theorem wd_0 : Cond.initialized R_L ∈ sx_gw := sx_wd 0 rfl rfl
theorem wd_1 : Cond.initialized R_X ∈ sx_gw := sx_wd 1 rfl rfl
theorem wd_2 : Cond.initialized "java/lang/Math" ∈ sx_gw := sx_wd 2 rfl rfl
theorem wd_3 : Cond.initialized R_P ∈ sx_gw := sx_wd 3 rfl rfl
theorem wd_4 : Cond.initialized R_S ∈ sx_gw := sx_wd 4 rfl rfl
theorem wd_5 : Cond.initialized R_M ∈ sx_gw := sx_wd 5 rfl rfl
theorem wd_6 : Cond.initialized R_A ∈ sx_gw := sx_wd 6 rfl rfl
theorem wd_7 : Cond.initialized "java/lang/System" ∈ sx_gw := sx_wd 7 rfl rfl
theorem wd_8 : Cond.initialized R_J ∈ sx_gw := sx_wd 8 rfl rfl
theorem wd_9 : Cond.classLink R_L (7 : Nat) R_X ∈ sx_gw := sx_wd 9 rfl rfl
theorem wd_10 : Cond.instantiable R_X (6 : Nat) ∈ sx_gw := sx_wd 10 rfl rfl
theorem wd_11 : Cond.methodLink R_L (15 : Nat) y_X_init ∈ sx_gw := sx_wd 11 rfl rfl
theorem wd_12 : Cond.instanceMethod y_X_init ∈ sx_gw := sx_wd 12 rfl rfl
theorem wd_13 : Cond.code y_X_init b_X_init 2 none ∈ sx_gw := sx_wd 13 rfl rfl
theorem wd_14 : Cond.methodLink R_X (1 : Nat) objectInit ∈ sx_gw := sx_wd 14 rfl rfl
theorem wd_15 : Cond.instanceMethod objectInit ∈ sx_gw := sx_wd 15 rfl rfl
theorem wd_16 : Cond.code objectInit ⟨#[0xb1]⟩ 1 none ∈ sx_gw := sx_wd 16 rfl rfl
theorem wd_17 : Cond.methodLink R_X (9 : Nat) Lib.Math.min.name ∈ sx_gw := sx_wd 17 rfl rfl
theorem wd_18 : Cond.static Lib.Math.min.name ∈ sx_gw := sx_wd 18 rfl rfl
theorem wd_19 : Cond.code Lib.Math.min.name Lib.Math.min.code 2 (some .int) ∈ sx_gw := sx_wd 19 rfl rfl
theorem wd_20 : Cond.methodLink R_X (15 : Nat) Lib.Math.max.name ∈ sx_gw := sx_wd 20 rfl rfl
theorem wd_21 : Cond.static Lib.Math.max.name ∈ sx_gw := sx_wd 21 rfl rfl
theorem wd_22 : Cond.code Lib.Math.max.name Lib.Math.max.code 2 (some .int) ∈ sx_gw := sx_wd 22 rfl rfl
theorem wd_23 : Cond.classLink R_X (22 : Nat) R_P ∈ sx_gw := sx_wd 23 rfl rfl
theorem wd_24 : Cond.instantiable R_P (5 : Nat) ∈ sx_gw := sx_wd 24 rfl rfl
theorem wd_25 : Cond.methodLink R_X (24 : Nat) y_P_init ∈ sx_gw := sx_wd 25 rfl rfl
theorem wd_26 : Cond.instanceMethod y_P_init ∈ sx_gw := sx_wd 26 rfl rfl
theorem wd_27 : Cond.code y_P_init b_P_init 1 none ∈ sx_gw := sx_wd 27 rfl rfl
theorem wd_28 : Cond.methodLink R_P (3 : Nat) objectInit ∈ sx_gw := sx_wd 28 rfl rfl
theorem wd_29 : Cond.methodLinkNest R_P (30 : Nat) y_X_only "SandboxTree" ∈ sx_nws := sx_wn 29 rfl rfl
theorem wd_30 : Cond.static y_X_only ∈ sx_gw := sx_wd 30 rfl rfl
theorem wd_31 : Cond.code y_X_only b_X_only 1 (some .long) ∈ sx_gw := sx_wd 31 rfl rfl
theorem wd_32 : Cond.fieldLink R_P (9 : Nat) "SandboxTree$PathTree" "parents" "[I" ∈ sx_gw := sx_wd 32 rfl rfl
theorem wd_33 : Cond.fieldLink R_P (15 : Nat) "SandboxTree$PathTree" "letters" "[C" ∈ sx_gw := sx_wd 33 rfl rfl
theorem wd_34 : Cond.fieldLink R_P (19 : Nat) "SandboxTree$PathTree" "aboveSets" "[J" ∈ sx_gw := sx_wd 34 rfl rfl
theorem wd_35 : Cond.fieldLink R_P (23 : Nat) "SandboxTree$PathTree" "underSets" "[J" ∈ sx_gw := sx_wd 35 rfl rfl
theorem wd_36 : Cond.fieldLink R_P (26 : Nat) "SandboxTree$PathTree" "count" "I" ∈ sx_gw := sx_wd 36 rfl rfl
theorem wd_37 : Cond.laysFinal "SandboxTree$PathTree" "SandboxTree$PathTree" "parents" "[I" ∈ sx_gw := sx_wd 37 rfl rfl
theorem wd_39 : Cond.laysFinal "SandboxTree$PathTree" "SandboxTree$PathTree" "letters" "[C" ∈ sx_gw := sx_wd 39 rfl rfl
theorem wd_41 : Cond.laysFinal "SandboxTree$PathTree" "SandboxTree$PathTree" "aboveSets" "[J" ∈ sx_gw := sx_wd 41 rfl rfl
theorem wd_43 : Cond.laysFinal "SandboxTree$PathTree" "SandboxTree$PathTree" "underSets" "[J" ∈ sx_gw := sx_wd 43 rfl rfl
theorem wd_45 : Cond.lays "SandboxTree$PathTree" "SandboxTree$PathTree" "count" "I" ∈ sx_gw := sx_wd 45 rfl rfl
theorem wd_48 : Cond.arrayClass .int ∈ sx_gw := sx_wd 48 rfl rfl
theorem wd_49 : Cond.arrayClass .char ∈ sx_gw := sx_wd 49 rfl rfl
theorem wd_50 : Cond.arrayClass .long ∈ sx_gw := sx_wd 50 rfl rfl
theorem wd_51 : Cond.classLink R_X (29 : Nat) R_S ∈ sx_gw := sx_wd 51 rfl rfl
theorem wd_52 : Cond.instantiable R_S (3 : Nat) ∈ sx_gw := sx_wd 52 rfl rfl
theorem wd_53 : Cond.methodLinkNest R_X (31 : Nat) y_S_init "SandboxTree" ∈ sx_nws := sx_wn 53 rfl rfl
theorem wd_54 : Cond.instanceMethod y_S_init ∈ sx_gw := sx_wd 54 rfl rfl
theorem wd_55 : Cond.code y_S_init b_S_init 1 none ∈ sx_gw := sx_wd 55 rfl rfl
theorem wd_56 : Cond.methodLink R_S (3 : Nat) objectInit ∈ sx_gw := sx_wd 56 rfl rfl
theorem wd_57 : Cond.fieldLink R_S (9 : Nat) "SandboxTree$Store" "values" "[I" ∈ sx_gw := sx_wd 57 rfl rfl
theorem wd_58 : Cond.fieldLink R_S (15 : Nat) "SandboxTree$Store" "files" "J" ∈ sx_gw := sx_wd 58 rfl rfl
theorem wd_59 : Cond.fieldLink R_S (19 : Nat) "SandboxTree$Store" "links" "J" ∈ sx_gw := sx_wd 59 rfl rfl
theorem wd_60 : Cond.laysFinal "SandboxTree$Store" "SandboxTree$Store" "values" "[I" ∈ sx_gw := sx_wd 60 rfl rfl
theorem wd_62 : Cond.lays "SandboxTree$Store" "SandboxTree$Store" "files" "J" ∈ sx_gw := sx_wd 62 rfl rfl
theorem wd_64 : Cond.lays "SandboxTree$Store" "SandboxTree$Store" "links" "J" ∈ sx_gw := sx_wd 64 rfl rfl
theorem wd_67 : Cond.classLink R_X (36 : Nat) R_A ∈ sx_gw := sx_wd 67 rfl rfl
theorem wd_69 : Cond.fieldLink R_X (18 : Nat) "SandboxTree" "limit" "I" ∈ sx_gw := sx_wd 69 rfl rfl
theorem wd_70 : Cond.fieldLink R_X (25 : Nat) "SandboxTree" "paths" "LSandboxTree$PathTree;" ∈ sx_gw := sx_wd 70 rfl rfl
theorem wd_71 : Cond.fieldLink R_X (32 : Nat) "SandboxTree" "sourceFiles" "LSandboxTree$Store;" ∈ sx_gw := sx_wd 71 rfl rfl
theorem wd_72 : Cond.fieldLink R_X (38 : Nat) "SandboxTree" "actions" "[LSandboxTree$Action;" ∈ sx_gw := sx_wd 72 rfl rfl
theorem wd_73 : Cond.fieldLink R_X (77 : Nat) "SandboxTree" "actionCount" "I" ∈ sx_gw := sx_wd 73 rfl rfl
theorem wd_74 : Cond.fieldLink R_X (100 : Nat) "SandboxTree" "strictNow" "Z" ∈ sx_gw := sx_wd 74 rfl rfl
theorem wd_75 : Cond.laysFinal "SandboxTree" "SandboxTree" "limit" "I" ∈ sx_gw := sx_wd 75 rfl rfl
theorem wd_77 : Cond.laysFinal "SandboxTree" "SandboxTree" "paths" "LSandboxTree$PathTree;" ∈ sx_gw := sx_wd 77 rfl rfl
theorem wd_79 : Cond.laysFinal "SandboxTree" "SandboxTree" "sourceFiles" "LSandboxTree$Store;" ∈ sx_gw := sx_wd 79 rfl rfl
theorem wd_81 : Cond.laysFinal "SandboxTree" "SandboxTree" "actions" "[LSandboxTree$Action;" ∈ sx_gw := sx_wd 81 rfl rfl
theorem wd_83 : Cond.lays "SandboxTree" "SandboxTree" "actionCount" "I" ∈ sx_gw := sx_wd 83 rfl rfl
theorem wd_85 : Cond.lays "SandboxTree" "SandboxTree" "strictNow" "Z" ∈ sx_gw := sx_wd 85 rfl rfl
theorem wd_88 : Cond.methodLink R_L (21 : Nat) y_X_path ∈ sx_gw := sx_wd 88 rfl rfl
theorem wd_89 : Cond.instanceMethod y_X_path ∈ sx_gw := sx_wd 89 rfl rfl
theorem wd_90 : Cond.selects R_X y_X_path y_X_path ∈ sx_gw := sx_wd 90 rfl rfl
theorem wd_91 : Cond.code y_X_path b_X_path 4 (some .int) ∈ sx_gw := sx_wd 91 rfl rfl
theorem wd_92 : Cond.methodLink R_X (42 : Nat) y_P_has ∈ sx_gw := sx_wd 92 rfl rfl
theorem wd_93 : Cond.instanceMethod y_P_has ∈ sx_gw := sx_wd 93 rfl rfl
theorem wd_94 : Cond.selects R_P y_P_has y_P_has ∈ sx_gw := sx_wd 94 rfl rfl
theorem wd_95 : Cond.code y_P_has b_P_has 2 (some .boolean) ∈ sx_gw := sx_wd 95 rfl rfl
theorem wd_96 : Cond.methodLink R_X (46 : Nat) y_X_isLetter ∈ sx_gw := sx_wd 96 rfl rfl
theorem wd_97 : Cond.static y_X_isLetter ∈ sx_gw := sx_wd 97 rfl rfl
theorem wd_98 : Cond.code y_X_isLetter b_X_isLetter 1 (some .boolean) ∈ sx_gw := sx_wd 98 rfl rfl
theorem wd_99 : Cond.methodLink R_X (50 : Nat) y_P_find ∈ sx_gw := sx_wd 99 rfl rfl
theorem wd_100 : Cond.instanceMethod y_P_find ∈ sx_gw := sx_wd 100 rfl rfl
theorem wd_101 : Cond.selects R_P y_P_find y_P_find ∈ sx_gw := sx_wd 101 rfl rfl
theorem wd_102 : Cond.code y_P_find b_P_find 4 (some .int) ∈ sx_gw := sx_wd 102 rfl rfl
theorem wd_103 : Cond.methodLink R_X (54 : Nat) y_P_add ∈ sx_gw := sx_wd 103 rfl rfl
theorem wd_104 : Cond.instanceMethod y_P_add ∈ sx_gw := sx_wd 104 rfl rfl
theorem wd_105 : Cond.selects R_P y_P_add y_P_add ∈ sx_gw := sx_wd 105 rfl rfl
theorem wd_106 : Cond.code y_P_add b_P_add 5 (some .int) ∈ sx_gw := sx_wd 106 rfl rfl
theorem wd_107 : Cond.methodLink R_P (34 : Nat) y_P_has ∈ sx_gw := sx_wd 107 rfl rfl
theorem wd_108 : Cond.methodLinkNest R_P (38 : Nat) y_X_holds "SandboxTree" ∈ sx_nws := sx_wn 108 rfl rfl
theorem wd_109 : Cond.static y_X_holds ∈ sx_gw := sx_wd 109 rfl rfl
theorem wd_110 : Cond.code y_X_holds b_X_holds 3 (some .boolean) ∈ sx_gw := sx_wd 110 rfl rfl
theorem wd_111 : Cond.methodLink R_X (183 : Nat) y_X_only ∈ sx_gw := sx_wd 111 rfl rfl
theorem wd_112 : Cond.methodLink R_L (26 : Nat) y_X_file ∈ sx_gw := sx_wd 112 rfl rfl
theorem wd_113 : Cond.instanceMethod y_X_file ∈ sx_gw := sx_wd 113 rfl rfl
theorem wd_114 : Cond.selects R_X y_X_file y_X_file ∈ sx_gw := sx_wd 114 rfl rfl
theorem wd_115 : Cond.code y_X_file b_X_file 3 (some .boolean) ∈ sx_gw := sx_wd 115 rfl rfl
theorem wd_116 : Cond.methodLink R_X (57 : Nat) y_P_inTheWayOf ∈ sx_gw := sx_wd 116 rfl rfl
theorem wd_117 : Cond.instanceMethod y_P_inTheWayOf ∈ sx_gw := sx_wd 117 rfl rfl
theorem wd_118 : Cond.selects R_P y_P_inTheWayOf y_P_inTheWayOf ∈ sx_gw := sx_wd 118 rfl rfl
theorem wd_119 : Cond.code y_P_inTheWayOf b_P_inTheWayOf 2 (some .long) ∈ sx_gw := sx_wd 119 rfl rfl
theorem wd_120 : Cond.constantLong R_P (42 : Nat) (-1 : Int64) ∈ sx_gw := sx_wd 120 rfl rfl
theorem wd_121 : Cond.methodLink R_X (61 : Nat) y_S_taken ∈ sx_gw := sx_wd 121 rfl rfl
theorem wd_122 : Cond.instanceMethod y_S_taken ∈ sx_gw := sx_wd 122 rfl rfl
theorem wd_123 : Cond.selects R_S y_S_taken y_S_taken ∈ sx_gw := sx_wd 123 rfl rfl
theorem wd_124 : Cond.code y_S_taken b_S_taken 1 (some .long) ∈ sx_gw := sx_wd 124 rfl rfl
theorem wd_125 : Cond.methodLink R_X (65 : Nat) y_S_takeAway ∈ sx_gw := sx_wd 125 rfl rfl
theorem wd_126 : Cond.instanceMethod y_S_takeAway ∈ sx_gw := sx_wd 126 rfl rfl
theorem wd_127 : Cond.selects R_S y_S_takeAway y_S_takeAway ∈ sx_gw := sx_wd 127 rfl rfl
theorem wd_128 : Cond.code y_S_takeAway b_S_takeAway 2 none ∈ sx_gw := sx_wd 128 rfl rfl
theorem wd_129 : Cond.methodLinkNest R_S (30 : Nat) y_X_only "SandboxTree" ∈ sx_nws := sx_wn 129 rfl rfl
theorem wd_130 : Cond.constantLong R_S (34 : Nat) (-1 : Int64) ∈ sx_gw := sx_wd 130 rfl rfl
theorem wd_131 : Cond.methodLink R_X (69 : Nat) y_S_putFile ∈ sx_gw := sx_wd 131 rfl rfl
theorem wd_132 : Cond.instanceMethod y_S_putFile ∈ sx_gw := sx_wd 132 rfl rfl
theorem wd_133 : Cond.selects R_S y_S_putFile y_S_putFile ∈ sx_gw := sx_wd 133 rfl rfl
theorem wd_134 : Cond.code y_S_putFile b_S_putFile 3 none ∈ sx_gw := sx_wd 134 rfl rfl
theorem wd_135 : Cond.methodLink R_S (22 : Nat) y_S_canHold ∈ sx_gw := sx_wd 135 rfl rfl
theorem wd_136 : Cond.static y_S_canHold ∈ sx_gw := sx_wd 136 rfl rfl
theorem wd_137 : Cond.code y_S_canHold b_S_canHold 1 (some .boolean) ∈ sx_gw := sx_wd 137 rfl rfl
theorem wd_138 : Cond.methodLink R_S (26 : Nat) y_S_takeAway ∈ sx_gw := sx_wd 138 rfl rfl
theorem wd_139 : Cond.methodLink R_L (31 : Nat) y_X_source ∈ sx_gw := sx_wd 139 rfl rfl
theorem wd_140 : Cond.instanceMethod y_X_source ∈ sx_gw := sx_wd 140 rfl rfl
theorem wd_141 : Cond.selects R_X y_X_source y_X_source ∈ sx_gw := sx_wd 141 rfl rfl
theorem wd_142 : Cond.code y_X_source b_X_source 2 (some .int) ∈ sx_gw := sx_wd 142 rfl rfl
theorem wd_143 : Cond.methodLink R_X (73 : Nat) y_S_leadsTo ∈ sx_gw := sx_wd 143 rfl rfl
theorem wd_144 : Cond.instanceMethod y_S_leadsTo ∈ sx_gw := sx_wd 144 rfl rfl
theorem wd_145 : Cond.selects R_S y_S_leadsTo y_S_leadsTo ∈ sx_gw := sx_wd 145 rfl rfl
theorem wd_146 : Cond.code y_S_leadsTo b_S_leadsTo 4 (some .int) ∈ sx_gw := sx_wd 146 rfl rfl
theorem wd_147 : Cond.methodLinkNest R_S (42 : Nat) y_X_holds "SandboxTree" ∈ sx_nws := sx_wn 147 rfl rfl
theorem wd_148 : Cond.methodLink R_L (36 : Nat) y_X_action ∈ sx_gw := sx_wd 148 rfl rfl
theorem wd_149 : Cond.instanceMethod y_X_action ∈ sx_gw := sx_wd 149 rfl rfl
theorem wd_150 : Cond.selects R_X y_X_action y_X_action ∈ sx_gw := sx_wd 150 rfl rfl
theorem wd_151 : Cond.code y_X_action b_X_action 2 (some .int) ∈ sx_gw := sx_wd 151 rfl rfl
theorem wd_152 : Cond.instantiable R_A (12 : Nat) ∈ sx_gw := sx_wd 152 rfl rfl
theorem wd_153 : Cond.methodLinkNest R_X (80 : Nat) y_A_init "SandboxTree" ∈ sx_nws := sx_wn 153 rfl rfl
theorem wd_154 : Cond.instanceMethod y_A_init ∈ sx_gw := sx_wd 154 rfl rfl
theorem wd_155 : Cond.code y_A_init b_A_init 1 none ∈ sx_gw := sx_wd 155 rfl rfl
theorem wd_156 : Cond.methodLink R_A (3 : Nat) objectInit ∈ sx_gw := sx_wd 156 rfl rfl
theorem wd_157 : Cond.classLink R_A (19 : Nat) R_S ∈ sx_gw := sx_wd 157 rfl rfl
theorem wd_158 : Cond.methodLinkNest R_A (21 : Nat) y_S_init "SandboxTree" ∈ sx_nws := sx_wn 158 rfl rfl
theorem wd_159 : Cond.fieldLink R_A (9 : Nat) "SandboxTree$Action" "declaredPaths" "[I" ∈ sx_gw := sx_wd 159 rfl rfl
theorem wd_160 : Cond.fieldLinkNest R_X (186 : Nat) "SandboxTree$Action" "declaredPaths" "[I" "SandboxTree" ∈ sx_nws := sx_wn 160 rfl rfl
theorem wd_161 : Cond.fieldLink R_A (15 : Nat) "SandboxTree$Action" "isOutput" "[Z" ∈ sx_gw := sx_wd 161 rfl rfl
theorem wd_162 : Cond.fieldLinkNest R_X (189 : Nat) "SandboxTree$Action" "isOutput" "[Z" "SandboxTree" ∈ sx_nws := sx_wn 162 rfl rfl
theorem wd_163 : Cond.fieldLink R_A (29 : Nat) "SandboxTree$Action" "declaredCount" "I" ∈ sx_gw := sx_wd 163 rfl rfl
theorem wd_164 : Cond.fieldLinkNest R_X (85 : Nat) "SandboxTree$Action" "declaredCount" "I" "SandboxTree" ∈ sx_nws := sx_wn 164 rfl rfl
theorem wd_165 : Cond.fieldLink R_A (22 : Nat) "SandboxTree$Action" "world" "LSandboxTree$Store;" ∈ sx_gw := sx_wd 165 rfl rfl
theorem wd_166 : Cond.fieldLinkNest R_X (110 : Nat) "SandboxTree$Action" "world" "LSandboxTree$Store;" "SandboxTree" ∈ sx_nws := sx_wn 166 rfl rfl
theorem wd_167 : Cond.fieldLink R_A (33 : Nat) "SandboxTree$Action" "worldThere" "Z" ∈ sx_gw := sx_wd 167 rfl rfl
theorem wd_168 : Cond.fieldLinkNest R_X (88 : Nat) "SandboxTree$Action" "worldThere" "Z" "SandboxTree" ∈ sx_nws := sx_wn 168 rfl rfl
theorem wd_169 : Cond.fieldLink R_A (37 : Nat) "SandboxTree$Action" "hadWorld" "Z" ∈ sx_gw := sx_wd 169 rfl rfl
theorem wd_170 : Cond.fieldLinkNest R_X (174 : Nat) "SandboxTree$Action" "hadWorld" "Z" "SandboxTree" ∈ sx_nws := sx_wn 170 rfl rfl
theorem wd_171 : Cond.fieldLink R_A (40 : Nat) "SandboxTree$Action" "broken" "Z" ∈ sx_gw := sx_wd 171 rfl rfl
theorem wd_172 : Cond.fieldLinkNest R_X (158 : Nat) "SandboxTree$Action" "broken" "Z" "SandboxTree" ∈ sx_nws := sx_wn 172 rfl rfl
theorem wd_173 : Cond.fieldLink R_A (43 : Nat) "SandboxTree$Action" "operations" "I" ∈ sx_gw := sx_wd 173 rfl rfl
theorem wd_174 : Cond.fieldLinkNest R_X (177 : Nat) "SandboxTree$Action" "operations" "I" "SandboxTree" ∈ sx_nws := sx_wn 174 rfl rfl
theorem wd_175 : Cond.fieldLink R_A (46 : Nat) "SandboxTree$Action" "refused" "I" ∈ sx_gw := sx_wd 175 rfl rfl
theorem wd_176 : Cond.fieldLinkNest R_X (180 : Nat) "SandboxTree$Action" "refused" "I" "SandboxTree" ∈ sx_nws := sx_wn 176 rfl rfl
theorem wd_177 : Cond.fieldLink R_A (26 : Nat) "SandboxTree$Action" "triedPaths" "[I" ∈ sx_gw := sx_wd 177 rfl rfl
theorem wd_178 : Cond.fieldLinkNest R_X (170 : Nat) "SandboxTree$Action" "triedPaths" "[I" "SandboxTree" ∈ sx_nws := sx_wn 178 rfl rfl
theorem wd_179 : Cond.fieldLink R_A (49 : Nat) "SandboxTree$Action" "triedCount" "I" ∈ sx_gw := sx_wd 179 rfl rfl
theorem wd_180 : Cond.fieldLinkNest R_X (167 : Nat) "SandboxTree$Action" "triedCount" "I" "SandboxTree" ∈ sx_nws := sx_wn 180 rfl rfl
theorem wd_181 : Cond.fieldLink R_A (52 : Nat) "SandboxTree$Action" "triedSet" "J" ∈ sx_gw := sx_wd 181 rfl rfl
theorem wd_182 : Cond.laysFinal "SandboxTree$Action" "SandboxTree$Action" "declaredPaths" "[I" ∈ sx_gw := sx_wd 182 rfl rfl
theorem wd_184 : Cond.laysFinal "SandboxTree$Action" "SandboxTree$Action" "isOutput" "[Z" ∈ sx_gw := sx_wd 184 rfl rfl
theorem wd_186 : Cond.lays "SandboxTree$Action" "SandboxTree$Action" "declaredCount" "I" ∈ sx_gw := sx_wd 186 rfl rfl
theorem wd_188 : Cond.laysFinal "SandboxTree$Action" "SandboxTree$Action" "world" "LSandboxTree$Store;" ∈ sx_gw := sx_wd 188 rfl rfl
theorem wd_190 : Cond.lays "SandboxTree$Action" "SandboxTree$Action" "worldThere" "Z" ∈ sx_gw := sx_wd 190 rfl rfl
theorem wd_192 : Cond.lays "SandboxTree$Action" "SandboxTree$Action" "hadWorld" "Z" ∈ sx_gw := sx_wd 192 rfl rfl
theorem wd_194 : Cond.lays "SandboxTree$Action" "SandboxTree$Action" "broken" "Z" ∈ sx_gw := sx_wd 194 rfl rfl
theorem wd_196 : Cond.lays "SandboxTree$Action" "SandboxTree$Action" "operations" "I" ∈ sx_gw := sx_wd 196 rfl rfl
theorem wd_198 : Cond.lays "SandboxTree$Action" "SandboxTree$Action" "refused" "I" ∈ sx_gw := sx_wd 198 rfl rfl
theorem wd_200 : Cond.laysFinal "SandboxTree$Action" "SandboxTree$Action" "triedPaths" "[I" ∈ sx_gw := sx_wd 200 rfl rfl
theorem wd_202 : Cond.lays "SandboxTree$Action" "SandboxTree$Action" "triedCount" "I" ∈ sx_gw := sx_wd 202 rfl rfl
theorem wd_204 : Cond.lays "SandboxTree$Action" "SandboxTree$Action" "triedSet" "J" ∈ sx_gw := sx_wd 204 rfl rfl
theorem wd_207 : Cond.arrayClass .boolean ∈ sx_gw := sx_wd 207 rfl rfl
theorem wd_208 : Cond.methodLink R_L (41 : Nat) y_X_declare ∈ sx_gw := sx_wd 208 rfl rfl
theorem wd_209 : Cond.instanceMethod y_X_declare ∈ sx_gw := sx_wd 209 rfl rfl
theorem wd_210 : Cond.selects R_X y_X_declare y_X_declare ∈ sx_gw := sx_wd 210 rfl rfl
theorem wd_211 : Cond.code y_X_declare b_X_declare 5 (some .int) ∈ sx_gw := sx_wd 211 rfl rfl
theorem wd_212 : Cond.methodLink R_X (81 : Nat) y_X_actionAt ∈ sx_gw := sx_wd 212 rfl rfl
theorem wd_214 : Cond.instanceMethod y_X_actionAt ∈ sx_gw := sx_wd 214 rfl rfl
theorem wd_215 : Cond.code y_X_actionAt b_X_actionAt 2 (some (.object "SandboxTree$Action")) ∈ sx_gw := sx_wd 215 rfl rfl
theorem wd_216 : Cond.methodLink R_X (92 : Nat) y_X_touchesDeclared ∈ sx_gw := sx_wd 216 rfl rfl
theorem wd_218 : Cond.instanceMethod y_X_touchesDeclared ∈ sx_gw := sx_wd 218 rfl rfl
theorem wd_219 : Cond.code y_X_touchesDeclared b_X_touchesDeclared 6 (some .boolean) ∈ sx_gw := sx_wd 219 rfl rfl
theorem wd_220 : Cond.methodLink R_X (147 : Nat) y_X_holds ∈ sx_gw := sx_wd 220 rfl rfl
theorem wd_221 : Cond.methodLink R_X (96 : Nat) y_A_addDeclared ∈ sx_gw := sx_wd 221 rfl rfl
theorem wd_222 : Cond.instanceMethod y_A_addDeclared ∈ sx_gw := sx_wd 222 rfl rfl
theorem wd_223 : Cond.selects R_A y_A_addDeclared y_A_addDeclared ∈ sx_gw := sx_wd 223 rfl rfl
theorem wd_224 : Cond.code y_A_addDeclared b_A_addDeclared 3 none ∈ sx_gw := sx_wd 224 rfl rfl
theorem wd_225 : Cond.methodLink R_L (46 : Nat) y_X_strict ∈ sx_gw := sx_wd 225 rfl rfl
theorem wd_226 : Cond.instanceMethod y_X_strict ∈ sx_gw := sx_wd 226 rfl rfl
theorem wd_227 : Cond.selects R_X y_X_strict y_X_strict ∈ sx_gw := sx_wd 227 rfl rfl
theorem wd_228 : Cond.code y_X_strict b_X_strict 2 none ∈ sx_gw := sx_wd 228 rfl rfl
theorem wd_229 : Cond.methodLink R_L (51 : Nat) y_X_begin ∈ sx_gw := sx_wd 229 rfl rfl
theorem wd_230 : Cond.instanceMethod y_X_begin ∈ sx_gw := sx_wd 230 rfl rfl
theorem wd_231 : Cond.selects R_X y_X_begin y_X_begin ∈ sx_gw := sx_wd 231 rfl rfl
theorem wd_232 : Cond.code y_X_begin b_X_begin 3 (some .int) ∈ sx_gw := sx_wd 232 rfl rfl
theorem wd_233 : Cond.methodLink R_X (103 : Nat) y_X_lacksInput ∈ sx_gw := sx_wd 233 rfl rfl
theorem wd_235 : Cond.instanceMethod y_X_lacksInput ∈ sx_gw := sx_wd 235 rfl rfl
theorem wd_236 : Cond.code y_X_lacksInput b_X_lacksInput 5 (some .boolean) ∈ sx_gw := sx_wd 236 rfl rfl
theorem wd_237 : Cond.methodLink R_X (193 : Nat) y_P_under ∈ sx_gw := sx_wd 237 rfl rfl
theorem wd_238 : Cond.instanceMethod y_P_under ∈ sx_gw := sx_wd 238 rfl rfl
theorem wd_239 : Cond.selects R_P y_P_under y_P_under ∈ sx_gw := sx_wd 239 rfl rfl
theorem wd_240 : Cond.code y_P_under b_P_under 2 (some .long) ∈ sx_gw := sx_wd 240 rfl rfl
theorem wd_241 : Cond.methodLink R_X (107 : Nat) y_A_startWorld ∈ sx_gw := sx_wd 241 rfl rfl
theorem wd_242 : Cond.instanceMethod y_A_startWorld ∈ sx_gw := sx_wd 242 rfl rfl
theorem wd_243 : Cond.selects R_A y_A_startWorld y_A_startWorld ∈ sx_gw := sx_wd 243 rfl rfl
theorem wd_244 : Cond.code y_A_startWorld b_A_startWorld 1 none ∈ sx_gw := sx_wd 244 rfl rfl
theorem wd_245 : Cond.methodLink R_X (113 : Nat) y_X_underDeclared ∈ sx_gw := sx_wd 245 rfl rfl
theorem wd_247 : Cond.instanceMethod y_X_underDeclared ∈ sx_gw := sx_wd 247 rfl rfl
theorem wd_248 : Cond.code y_X_underDeclared b_X_underDeclared 6 (some .long) ∈ sx_gw := sx_wd 248 rfl rfl
theorem wd_249 : Cond.methodLink R_X (117 : Nat) y_S_copyFiles ∈ sx_gw := sx_wd 249 rfl rfl
theorem wd_250 : Cond.instanceMethod y_S_copyFiles ∈ sx_gw := sx_wd 250 rfl rfl
theorem wd_251 : Cond.selects R_S y_S_copyFiles y_S_copyFiles ∈ sx_gw := sx_wd 251 rfl rfl
theorem wd_252 : Cond.code y_S_copyFiles b_S_copyFiles 4 none ∈ sx_gw := sx_wd 252 rfl rfl
theorem wd_253 : Cond.methodLink R_S (36 : Nat) arraycopyName ∈ sx_gw := sx_wd 253 rfl rfl
theorem wd_254 : Cond.static arraycopyName ∈ sx_gw := sx_wd 254 rfl rfl
theorem wd_255 : Cond.native arraycopyName ∈ sx_gw := sx_wd 255 rfl rfl
theorem wd_256 : Cond.methodLink R_X (121 : Nat) y_J_bitCount ∈ sx_gw := sx_wd 256 rfl rfl
theorem wd_257 : Cond.static y_J_bitCount ∈ sx_gw := sx_wd 257 rfl rfl
theorem wd_258 : Cond.code y_J_bitCount b_J_bitCount 2 (some .int) ∈ sx_gw := sx_wd 258 rfl rfl
theorem wd_259 : Cond.constantLong R_J (314 : Nat) (6148914691236517205 : Int64) ∈ sx_gw := sx_wd 259 rfl rfl
theorem wd_260 : Cond.constantLong R_J (316 : Nat) (3689348814741910323 : Int64) ∈ sx_gw := sx_wd 260 rfl rfl
theorem wd_261 : Cond.constantLong R_J (318 : Nat) (1085102592571150095 : Int64) ∈ sx_gw := sx_wd 261 rfl rfl
theorem wd_262 : Cond.methodLink R_L (55 : Nat) y_X_open ∈ sx_gw := sx_wd 262 rfl rfl
theorem wd_263 : Cond.instanceMethod y_X_open ∈ sx_gw := sx_wd 263 rfl rfl
theorem wd_264 : Cond.selects R_X y_X_open y_X_open ∈ sx_gw := sx_wd 264 rfl rfl
theorem wd_265 : Cond.code y_X_open b_X_open 5 (some .int) ∈ sx_gw := sx_wd 265 rfl rfl
theorem wd_266 : Cond.methodLink R_X (127 : Nat) y_X_runningAt ∈ sx_gw := sx_wd 266 rfl rfl
theorem wd_268 : Cond.instanceMethod y_X_runningAt ∈ sx_gw := sx_wd 268 rfl rfl
theorem wd_269 : Cond.code y_X_runningAt b_X_runningAt 3 (some (.object "SandboxTree$Action")) ∈ sx_gw := sx_wd 269 rfl rfl
theorem wd_270 : Cond.methodLink R_X (130 : Nat) y_A_startOperation ∈ sx_gw := sx_wd 270 rfl rfl
theorem wd_271 : Cond.instanceMethod y_A_startOperation ∈ sx_gw := sx_wd 271 rfl rfl
theorem wd_272 : Cond.selects R_A y_A_startOperation y_A_startOperation ∈ sx_gw := sx_wd 272 rfl rfl
theorem wd_273 : Cond.code y_A_startOperation b_A_startOperation 2 (some .boolean) ∈ sx_gw := sx_wd 273 rfl rfl
theorem wd_274 : Cond.methodLink R_X (133 : Nat) y_A_noteTried ∈ sx_gw := sx_wd 274 rfl rfl
theorem wd_275 : Cond.instanceMethod y_A_noteTried ∈ sx_gw := sx_wd 275 rfl rfl
theorem wd_276 : Cond.selects R_A y_A_noteTried y_A_noteTried ∈ sx_gw := sx_wd 276 rfl rfl
theorem wd_277 : Cond.code y_A_noteTried b_A_noteTried 2 none ∈ sx_gw := sx_wd 277 rfl rfl
theorem wd_278 : Cond.methodLinkNest R_A (56 : Nat) y_X_holds "SandboxTree" ∈ sx_nws := sx_wn 278 rfl rfl
theorem wd_279 : Cond.methodLinkNest R_A (60 : Nat) y_X_only "SandboxTree" ∈ sx_nws := sx_wn 279 rfl rfl
theorem wd_280 : Cond.methodLink R_L (60 : Nat) y_X_write ∈ sx_gw := sx_wd 280 rfl rfl
theorem wd_281 : Cond.instanceMethod y_X_write ∈ sx_gw := sx_wd 281 rfl rfl
theorem wd_282 : Cond.selects R_X y_X_write y_X_write ∈ sx_gw := sx_wd 282 rfl rfl
theorem wd_283 : Cond.code y_X_write b_X_write 5 (some .int) ∈ sx_gw := sx_wd 283 rfl rfl
theorem wd_284 : Cond.methodLink R_X (136 : Nat) y_X_canPut ∈ sx_gw := sx_wd 284 rfl rfl
theorem wd_286 : Cond.instanceMethod y_X_canPut ∈ sx_gw := sx_wd 286 rfl rfl
theorem wd_287 : Cond.code y_X_canPut b_X_canPut 3 (some .boolean) ∈ sx_gw := sx_wd 287 rfl rfl
theorem wd_288 : Cond.methodLink R_X (143 : Nat) y_X_writable ∈ sx_gw := sx_wd 288 rfl rfl
theorem wd_290 : Cond.instanceMethod y_X_writable ∈ sx_gw := sx_wd 290 rfl rfl
theorem wd_291 : Cond.code y_X_writable b_X_writable 2 (some .long) ∈ sx_gw := sx_wd 291 rfl rfl
theorem wd_292 : Cond.methodLink R_X (196 : Nat) y_X_scratch ∈ sx_gw := sx_wd 292 rfl rfl
theorem wd_294 : Cond.instanceMethod y_X_scratch ∈ sx_gw := sx_wd 294 rfl rfl
theorem wd_295 : Cond.code y_X_scratch b_X_scratch 3 (some .long) ∈ sx_gw := sx_wd 295 rfl rfl
theorem wd_296 : Cond.constantLong R_X (199 : Nat) (-1 : Int64) ∈ sx_gw := sx_wd 296 rfl rfl
theorem wd_297 : Cond.methodLink R_X (139 : Nat) y_X_refuse ∈ sx_gw := sx_wd 297 rfl rfl
theorem wd_299 : Cond.instanceMethod y_X_refuse ∈ sx_gw := sx_wd 299 rfl rfl
theorem wd_300 : Cond.code y_X_refuse b_X_refuse 2 (some .int) ∈ sx_gw := sx_wd 300 rfl rfl
theorem wd_301 : Cond.methodLink R_L (65 : Nat) y_X_link ∈ sx_gw := sx_wd 301 rfl rfl
theorem wd_302 : Cond.instanceMethod y_X_link ∈ sx_gw := sx_wd 302 rfl rfl
theorem wd_303 : Cond.selects R_X y_X_link y_X_link ∈ sx_gw := sx_wd 303 rfl rfl
theorem wd_304 : Cond.code y_X_link b_X_link 7 (some .int) ∈ sx_gw := sx_wd 304 rfl rfl
theorem wd_305 : Cond.methodLink R_X (151 : Nat) y_S_putLink ∈ sx_gw := sx_wd 305 rfl rfl
theorem wd_306 : Cond.instanceMethod y_S_putLink ∈ sx_gw := sx_wd 306 rfl rfl
theorem wd_307 : Cond.selects R_S y_S_putLink y_S_putLink ∈ sx_gw := sx_wd 307 rfl rfl
theorem wd_308 : Cond.code y_S_putLink b_S_putLink 3 none ∈ sx_gw := sx_wd 308 rfl rfl
theorem wd_309 : Cond.methodLink R_L (69 : Nat) y_X_remove ∈ sx_gw := sx_wd 309 rfl rfl
theorem wd_310 : Cond.instanceMethod y_X_remove ∈ sx_gw := sx_wd 310 rfl rfl
theorem wd_311 : Cond.selects R_X y_X_remove y_X_remove ∈ sx_gw := sx_wd 311 rfl rfl
theorem wd_312 : Cond.code y_X_remove b_X_remove 4 (some .int) ∈ sx_gw := sx_wd 312 rfl rfl
theorem wd_313 : Cond.methodLink R_L (73 : Nat) y_X_list ∈ sx_gw := sx_wd 313 rfl rfl
theorem wd_314 : Cond.instanceMethod y_X_list ∈ sx_gw := sx_wd 314 rfl rfl
theorem wd_315 : Cond.selects R_X y_X_list y_X_list ∈ sx_gw := sx_wd 315 rfl rfl
theorem wd_316 : Cond.code y_X_list b_X_list 5 (some .int) ∈ sx_gw := sx_wd 316 rfl rfl
theorem wd_317 : Cond.methodLink R_X (154 : Nat) y_P_letterInFolder ∈ sx_gw := sx_wd 317 rfl rfl
theorem wd_318 : Cond.instanceMethod y_P_letterInFolder ∈ sx_gw := sx_wd 318 rfl rfl
theorem wd_319 : Cond.selects R_P y_P_letterInFolder y_P_letterInFolder ∈ sx_gw := sx_wd 319 rfl rfl
theorem wd_320 : Cond.code y_P_letterInFolder b_P_letterInFolder 9 (some .int) ∈ sx_gw := sx_wd 320 rfl rfl
theorem wd_321 : Cond.methodLink R_L (77 : Nat) y_X_finish ∈ sx_gw := sx_wd 321 rfl rfl
theorem wd_322 : Cond.instanceMethod y_X_finish ∈ sx_gw := sx_wd 322 rfl rfl
theorem wd_323 : Cond.selects R_X y_X_finish y_X_finish ∈ sx_gw := sx_wd 323 rfl rfl
theorem wd_324 : Cond.code y_X_finish b_X_finish 5 (some .int) ∈ sx_gw := sx_wd 324 rfl rfl
theorem wd_325 : Cond.methodLink R_X (161 : Nat) y_X_firstOutputFault ∈ sx_gw := sx_wd 325 rfl rfl
theorem wd_327 : Cond.instanceMethod y_X_firstOutputFault ∈ sx_gw := sx_wd 327 rfl rfl
theorem wd_328 : Cond.code y_X_firstOutputFault b_X_firstOutputFault 6 (some .int) ∈ sx_gw := sx_wd 328 rfl rfl
theorem wd_329 : Cond.methodLink R_X (201 : Nat) y_S_hasLooseLink ∈ sx_gw := sx_wd 329 rfl rfl
theorem wd_330 : Cond.instanceMethod y_S_hasLooseLink ∈ sx_gw := sx_wd 330 rfl rfl
theorem wd_331 : Cond.selects R_S y_S_hasLooseLink y_S_hasLooseLink ∈ sx_gw := sx_wd 331 rfl rfl
theorem wd_332 : Cond.code y_S_hasLooseLink b_S_hasLooseLink 4 (some .boolean) ∈ sx_gw := sx_wd 332 rfl rfl
theorem wd_333 : Cond.methodLink R_S (46 : Nat) y_S_leadsTo ∈ sx_gw := sx_wd 333 rfl rfl
theorem wd_334 : Cond.methodLink R_X (164 : Nat) y_X_gather ∈ sx_gw := sx_wd 334 rfl rfl
theorem wd_336 : Cond.instanceMethod y_X_gather ∈ sx_gw := sx_wd 336 rfl rfl
theorem wd_337 : Cond.code y_X_gather b_X_gather 11 (some .int) ∈ sx_gw := sx_wd 337 rfl rfl
theorem wd_338 : Cond.methodLink R_X (205 : Nat) y_P_withAbove ∈ sx_gw := sx_wd 338 rfl rfl
theorem wd_339 : Cond.instanceMethod y_P_withAbove ∈ sx_gw := sx_wd 339 rfl rfl
theorem wd_340 : Cond.selects R_P y_P_withAbove y_P_withAbove ∈ sx_gw := sx_wd 340 rfl rfl
theorem wd_341 : Cond.code y_P_withAbove b_P_withAbove 6 (some .long) ∈ sx_gw := sx_wd 341 rfl rfl
theorem wd_342 : Cond.methodLink R_X (209 : Nat) y_P_hasClash ∈ sx_gw := sx_wd 342 rfl rfl
theorem wd_343 : Cond.instanceMethod y_P_hasClash ∈ sx_gw := sx_wd 343 rfl rfl
theorem wd_344 : Cond.selects R_P y_P_hasClash y_P_hasClash ∈ sx_gw := sx_wd 344 rfl rfl
theorem wd_345 : Cond.code y_P_hasClash b_P_hasClash 5 (some .boolean) ∈ sx_gw := sx_wd 345 rfl rfl
theorem wd_346 : Cond.methodLink R_P (44 : Nat) y_P_find ∈ sx_gw := sx_wd 346 rfl rfl
theorem wd_347 : Cond.methodLink R_L (82 : Nat) y_X_tried ∈ sx_gw := sx_wd 347 rfl rfl
theorem wd_348 : Cond.instanceMethod y_X_tried ∈ sx_gw := sx_wd 348 rfl rfl
theorem wd_349 : Cond.selects R_X y_X_tried y_X_tried ∈ sx_gw := sx_wd 349 rfl rfl
theorem wd_350 : Cond.code y_X_tried b_X_tried 4 (some .int) ∈ sx_gw := sx_wd 350 rfl rfl
set_option maxRecDepth 20000 in
theorem wd_351 : Cond.methodLink R_L (86 : Nat) y_X_about ∈ sx_gw := sx_wd 351 rfl rfl
set_option maxRecDepth 20000 in
theorem wd_352 : Cond.instanceMethod y_X_about ∈ sx_gw := sx_wd 352 rfl rfl
set_option maxRecDepth 20000 in
theorem wd_353 : Cond.selects R_X y_X_about y_X_about ∈ sx_gw := sx_wd 353 rfl rfl
set_option maxRecDepth 20000 in
theorem wd_354 : Cond.code y_X_about b_X_about 4 (some .int) ∈ sx_gw := sx_wd 354 rfl rfl
set_option maxRecDepth 20000 in
theorem wd_355 : Cond.methodLink R_L (9 : Nat) y_L_cell ∈ sx_gw := sx_wd 355 rfl rfl
set_option maxRecDepth 20000 in
theorem wd_356 : Cond.static y_L_cell ∈ sx_gw := sx_wd 356 rfl rfl
set_option maxRecDepth 20000 in
theorem wd_357 : Cond.code y_L_cell b_L_cell 2 (some .int) ∈ sx_gw := sx_wd 357 rfl rfl
set_option maxRecDepth 20000 in
theorem wd_358 : Cond.classLink R_L (18 : Nat) R_M ∈ sx_gw := sx_wd 358 rfl rfl
set_option maxRecDepth 20000 in
theorem wd_359 : Cond.instantiable R_M (21 : Nat) ∈ sx_gw := sx_wd 359 rfl rfl
set_option maxRecDepth 20000 in
theorem wd_360 : Cond.methodLink R_L (20 : Nat) y_M_init ∈ sx_gw := sx_wd 360 rfl rfl
set_option maxRecDepth 20000 in
theorem wd_361 : Cond.instanceMethod y_M_init ∈ sx_gw := sx_wd 361 rfl rfl
set_option maxRecDepth 20000 in
theorem wd_362 : Cond.code y_M_init b_M_init 2 none ∈ sx_gw := sx_wd 362 rfl rfl
set_option maxRecDepth 20000 in
theorem wd_363 : Cond.methodLink R_M (1 : Nat) objectInit ∈ sx_gw := sx_wd 363 rfl rfl
set_option maxRecDepth 20000 in
theorem wd_364 : Cond.fieldLink R_M (63 : Nat) "SandboxTreeModel" "most" "I" ∈ sx_gw := sx_wd 364 rfl rfl
set_option maxRecDepth 20000 in
theorem wd_365 : Cond.fieldLink R_M (66 : Nat) "SandboxTreeModel" "code" "I" ∈ sx_gw := sx_wd 365 rfl rfl
set_option maxRecDepth 20000 in
theorem wd_366 : Cond.fieldLink R_M (7 : Nat) "SandboxTreeModel" "paths" "I" ∈ sx_gw := sx_wd 366 rfl rfl
set_option maxRecDepth 20000 in
theorem wd_367 : Cond.fieldLink R_M (69 : Nat) "SandboxTreeModel" "actions" "I" ∈ sx_gw := sx_wd 367 rfl rfl
set_option maxRecDepth 20000 in
theorem wd_368 : Cond.fieldLink R_M (91 : Nat) "SandboxTreeModel" "isStrict" "Z" ∈ sx_gw := sx_wd 368 rfl rfl
set_option maxRecDepth 20000 in
theorem wd_369 : Cond.fieldLink R_M (13 : Nat) "SandboxTreeModel" "parent" "[I" ∈ sx_gw := sx_wd 369 rfl rfl
set_option maxRecDepth 20000 in
theorem wd_370 : Cond.fieldLink R_M (17 : Nat) "SandboxTreeModel" "letter" "[I" ∈ sx_gw := sx_wd 370 rfl rfl
set_option maxRecDepth 20000 in
theorem wd_371 : Cond.fieldLink R_M (20 : Nat) "SandboxTreeModel" "source" "[I" ∈ sx_gw := sx_wd 371 rfl rfl
set_option maxRecDepth 20000 in
theorem wd_372 : Cond.fieldLink R_M (23 : Nat) "SandboxTreeModel" "come" "[I" ∈ sx_gw := sx_wd 372 rfl rfl
set_option maxRecDepth 20000 in
theorem wd_373 : Cond.fieldLink R_M (26 : Nat) "SandboxTreeModel" "declared" "[I" ∈ sx_gw := sx_wd 373 rfl rfl
set_option maxRecDepth 20000 in
theorem wd_374 : Cond.fieldLink R_M (29 : Nat) "SandboxTreeModel" "declaredPath" "[I" ∈ sx_gw := sx_wd 374 rfl rfl
set_option maxRecDepth 20000 in
theorem wd_375 : Cond.fieldLink R_M (32 : Nat) "SandboxTreeModel" "operations" "[I" ∈ sx_gw := sx_wd 375 rfl rfl
set_option maxRecDepth 20000 in
theorem wd_376 : Cond.fieldLink R_M (35 : Nat) "SandboxTreeModel" "refusals" "[I" ∈ sx_gw := sx_wd 376 rfl rfl
set_option maxRecDepth 20000 in
theorem wd_377 : Cond.fieldLink R_M (38 : Nat) "SandboxTreeModel" "triedMany" "[I" ∈ sx_gw := sx_wd 377 rfl rfl
set_option maxRecDepth 20000 in
theorem wd_378 : Cond.fieldLink R_M (41 : Nat) "SandboxTreeModel" "tried" "[I" ∈ sx_gw := sx_wd 378 rfl rfl
set_option maxRecDepth 20000 in
theorem wd_379 : Cond.fieldLink R_M (44 : Nat) "SandboxTreeModel" "world" "[I" ∈ sx_gw := sx_wd 379 rfl rfl
set_option maxRecDepth 20000 in
theorem wd_380 : Cond.fieldLink R_M (47 : Nat) "SandboxTreeModel" "isOutput" "[Z" ∈ sx_gw := sx_wd 380 rfl rfl
set_option maxRecDepth 20000 in
theorem wd_381 : Cond.fieldLink R_M (51 : Nat) "SandboxTreeModel" "isThere" "[Z" ∈ sx_gw := sx_wd 381 rfl rfl
set_option maxRecDepth 20000 in
theorem wd_382 : Cond.fieldLink R_M (54 : Nat) "SandboxTreeModel" "isBroken" "[Z" ∈ sx_gw := sx_wd 382 rfl rfl
set_option maxRecDepth 20000 in
theorem wd_383 : Cond.fieldLink R_M (57 : Nat) "SandboxTreeModel" "wasThere" "[Z" ∈ sx_gw := sx_wd 383 rfl rfl
set_option maxRecDepth 20000 in
theorem wd_384 : Cond.fieldLink R_M (60 : Nat) "SandboxTreeModel" "marked" "[Z" ∈ sx_gw := sx_wd 384 rfl rfl
set_option maxRecDepth 20000 in
theorem wd_385 : Cond.laysFinal "SandboxTreeModel" "SandboxTreeModel" "most" "I" ∈ sx_gw := sx_wd 385 rfl rfl
set_option maxRecDepth 20000 in
theorem wd_387 : Cond.lays "SandboxTreeModel" "SandboxTreeModel" "code" "I" ∈ sx_gw := sx_wd 387 rfl rfl
set_option maxRecDepth 20000 in
theorem wd_389 : Cond.lays "SandboxTreeModel" "SandboxTreeModel" "paths" "I" ∈ sx_gw := sx_wd 389 rfl rfl
set_option maxRecDepth 20000 in
theorem wd_391 : Cond.lays "SandboxTreeModel" "SandboxTreeModel" "actions" "I" ∈ sx_gw := sx_wd 391 rfl rfl
set_option maxRecDepth 20000 in
theorem wd_393 : Cond.lays "SandboxTreeModel" "SandboxTreeModel" "isStrict" "Z" ∈ sx_gw := sx_wd 393 rfl rfl
set_option maxRecDepth 20000 in
theorem wd_395 : Cond.laysFinal "SandboxTreeModel" "SandboxTreeModel" "parent" "[I" ∈ sx_gw := sx_wd 395 rfl rfl
set_option maxRecDepth 20000 in
theorem wd_397 : Cond.laysFinal "SandboxTreeModel" "SandboxTreeModel" "letter" "[I" ∈ sx_gw := sx_wd 397 rfl rfl
set_option maxRecDepth 20000 in
theorem wd_399 : Cond.laysFinal "SandboxTreeModel" "SandboxTreeModel" "source" "[I" ∈ sx_gw := sx_wd 399 rfl rfl
set_option maxRecDepth 20000 in
theorem wd_401 : Cond.laysFinal "SandboxTreeModel" "SandboxTreeModel" "come" "[I" ∈ sx_gw := sx_wd 401 rfl rfl
set_option maxRecDepth 20000 in
theorem wd_403 : Cond.laysFinal "SandboxTreeModel" "SandboxTreeModel" "declared" "[I" ∈ sx_gw := sx_wd 403 rfl rfl
set_option maxRecDepth 20000 in
theorem wd_405 : Cond.laysFinal "SandboxTreeModel" "SandboxTreeModel" "declaredPath" "[I" ∈ sx_gw := sx_wd 405 rfl rfl
set_option maxRecDepth 20000 in
theorem wd_407 : Cond.laysFinal "SandboxTreeModel" "SandboxTreeModel" "operations" "[I" ∈ sx_gw := sx_wd 407 rfl rfl
set_option maxRecDepth 20000 in
theorem wd_409 : Cond.laysFinal "SandboxTreeModel" "SandboxTreeModel" "refusals" "[I" ∈ sx_gw := sx_wd 409 rfl rfl
set_option maxRecDepth 20000 in
theorem wd_411 : Cond.laysFinal "SandboxTreeModel" "SandboxTreeModel" "triedMany" "[I" ∈ sx_gw := sx_wd 411 rfl rfl
set_option maxRecDepth 20000 in
theorem wd_413 : Cond.laysFinal "SandboxTreeModel" "SandboxTreeModel" "tried" "[I" ∈ sx_gw := sx_wd 413 rfl rfl
set_option maxRecDepth 20000 in
theorem wd_415 : Cond.laysFinal "SandboxTreeModel" "SandboxTreeModel" "world" "[I" ∈ sx_gw := sx_wd 415 rfl rfl
set_option maxRecDepth 20000 in
theorem wd_417 : Cond.laysFinal "SandboxTreeModel" "SandboxTreeModel" "isOutput" "[Z" ∈ sx_gw := sx_wd 417 rfl rfl
set_option maxRecDepth 20000 in
theorem wd_419 : Cond.laysFinal "SandboxTreeModel" "SandboxTreeModel" "isThere" "[Z" ∈ sx_gw := sx_wd 419 rfl rfl
set_option maxRecDepth 20000 in
theorem wd_421 : Cond.laysFinal "SandboxTreeModel" "SandboxTreeModel" "isBroken" "[Z" ∈ sx_gw := sx_wd 421 rfl rfl
set_option maxRecDepth 20000 in
theorem wd_423 : Cond.laysFinal "SandboxTreeModel" "SandboxTreeModel" "wasThere" "[Z" ∈ sx_gw := sx_wd 423 rfl rfl
set_option maxRecDepth 20000 in
theorem wd_425 : Cond.laysFinal "SandboxTreeModel" "SandboxTreeModel" "marked" "[Z" ∈ sx_gw := sx_wd 425 rfl rfl
set_option maxRecDepth 20000 in
theorem wd_428 : Cond.methodLink R_L (25 : Nat) y_M_path ∈ sx_gw := sx_wd 428 rfl rfl
set_option maxRecDepth 20000 in
theorem wd_429 : Cond.instanceMethod y_M_path ∈ sx_gw := sx_wd 429 rfl rfl
set_option maxRecDepth 20000 in
theorem wd_430 : Cond.selects R_M y_M_path y_M_path ∈ sx_gw := sx_wd 430 rfl rfl
set_option maxRecDepth 20000 in
theorem wd_431 : Cond.code y_M_path b_M_path 4 (some .int) ∈ sx_gw := sx_wd 431 rfl rfl
set_option maxRecDepth 20000 in
theorem wd_432 : Cond.methodLink R_M (72 : Nat) y_M_isPath ∈ sx_gw := sx_wd 432 rfl rfl
set_option maxRecDepth 20000 in
theorem wd_434 : Cond.instanceMethod y_M_isPath ∈ sx_gw := sx_wd 434 rfl rfl
set_option maxRecDepth 20000 in
theorem wd_435 : Cond.code y_M_isPath b_M_isPath 2 (some .boolean) ∈ sx_gw := sx_wd 435 rfl rfl
set_option maxRecDepth 20000 in
theorem wd_436 : Cond.methodLink R_M (76 : Nat) y_M_lower ∈ sx_gw := sx_wd 436 rfl rfl
set_option maxRecDepth 20000 in
theorem wd_437 : Cond.static y_M_lower ∈ sx_gw := sx_wd 437 rfl rfl
set_option maxRecDepth 20000 in
theorem wd_438 : Cond.code y_M_lower b_M_lower 1 (some .int) ∈ sx_gw := sx_wd 438 rfl rfl
set_option maxRecDepth 20000 in
theorem wd_439 : Cond.methodLink R_M (80 : Nat) y_M_child ∈ sx_gw := sx_wd 439 rfl rfl
set_option maxRecDepth 20000 in
theorem wd_441 : Cond.instanceMethod y_M_child ∈ sx_gw := sx_wd 441 rfl rfl
set_option maxRecDepth 20000 in
theorem wd_442 : Cond.code y_M_child b_M_child 5 (some .int) ∈ sx_gw := sx_wd 442 rfl rfl
set_option maxRecDepth 20000 in
theorem wd_443 : Cond.methodLink R_L (30 : Nat) y_M_file ∈ sx_gw := sx_wd 443 rfl rfl
set_option maxRecDepth 20000 in
theorem wd_444 : Cond.instanceMethod y_M_file ∈ sx_gw := sx_wd 444 rfl rfl
set_option maxRecDepth 20000 in
theorem wd_445 : Cond.selects R_M y_M_file y_M_file ∈ sx_gw := sx_wd 445 rfl rfl
set_option maxRecDepth 20000 in
theorem wd_446 : Cond.code y_M_file b_M_file 4 (some .boolean) ∈ sx_gw := sx_wd 446 rfl rfl
set_option maxRecDepth 20000 in
theorem wd_447 : Cond.methodLink R_M (84 : Nat) y_M_isUnder ∈ sx_gw := sx_wd 447 rfl rfl
set_option maxRecDepth 20000 in
theorem wd_449 : Cond.instanceMethod y_M_isUnder ∈ sx_gw := sx_wd 449 rfl rfl
set_option maxRecDepth 20000 in
theorem wd_450 : Cond.code y_M_isUnder b_M_isUnder 4 (some .boolean) ∈ sx_gw := sx_wd 450 rfl rfl
set_option maxRecDepth 20000 in
theorem wd_451 : Cond.methodLink R_L (35 : Nat) y_M_source ∈ sx_gw := sx_wd 451 rfl rfl
set_option maxRecDepth 20000 in
theorem wd_452 : Cond.instanceMethod y_M_source ∈ sx_gw := sx_wd 452 rfl rfl
set_option maxRecDepth 20000 in
theorem wd_453 : Cond.selects R_M y_M_source y_M_source ∈ sx_gw := sx_wd 453 rfl rfl
set_option maxRecDepth 20000 in
theorem wd_454 : Cond.code y_M_source b_M_source 2 (some .int) ∈ sx_gw := sx_wd 454 rfl rfl
set_option maxRecDepth 20000 in
theorem wd_455 : Cond.methodLink R_L (40 : Nat) y_M_action ∈ sx_gw := sx_wd 455 rfl rfl
set_option maxRecDepth 20000 in
theorem wd_456 : Cond.instanceMethod y_M_action ∈ sx_gw := sx_wd 456 rfl rfl
set_option maxRecDepth 20000 in
theorem wd_457 : Cond.selects R_M y_M_action y_M_action ∈ sx_gw := sx_wd 457 rfl rfl
set_option maxRecDepth 20000 in
theorem wd_458 : Cond.code y_M_action b_M_action 1 (some .int) ∈ sx_gw := sx_wd 458 rfl rfl
set_option maxRecDepth 20000 in
theorem wd_459 : Cond.methodLink R_L (45 : Nat) y_M_declare ∈ sx_gw := sx_wd 459 rfl rfl
set_option maxRecDepth 20000 in
theorem wd_460 : Cond.instanceMethod y_M_declare ∈ sx_gw := sx_wd 460 rfl rfl
set_option maxRecDepth 20000 in
theorem wd_461 : Cond.selects R_M y_M_declare y_M_declare ∈ sx_gw := sx_wd 461 rfl rfl
set_option maxRecDepth 20000 in
theorem wd_462 : Cond.code y_M_declare b_M_declare 5 (some .int) ∈ sx_gw := sx_wd 462 rfl rfl
set_option maxRecDepth 20000 in
theorem wd_463 : Cond.methodLink R_M (88 : Nat) y_M_isAction ∈ sx_gw := sx_wd 463 rfl rfl
set_option maxRecDepth 20000 in
theorem wd_465 : Cond.instanceMethod y_M_isAction ∈ sx_gw := sx_wd 465 rfl rfl
set_option maxRecDepth 20000 in
theorem wd_466 : Cond.code y_M_isAction b_M_isAction 2 (some .boolean) ∈ sx_gw := sx_wd 466 rfl rfl
set_option maxRecDepth 20000 in
theorem wd_467 : Cond.methodLink R_L (50 : Nat) y_M_strict ∈ sx_gw := sx_wd 467 rfl rfl
set_option maxRecDepth 20000 in
theorem wd_468 : Cond.instanceMethod y_M_strict ∈ sx_gw := sx_wd 468 rfl rfl
set_option maxRecDepth 20000 in
theorem wd_469 : Cond.selects R_M y_M_strict y_M_strict ∈ sx_gw := sx_wd 469 rfl rfl
set_option maxRecDepth 20000 in
theorem wd_470 : Cond.code y_M_strict b_M_strict 2 none ∈ sx_gw := sx_wd 470 rfl rfl
set_option maxRecDepth 20000 in
theorem wd_471 : Cond.methodLink R_L (54 : Nat) y_M_begin ∈ sx_gw := sx_wd 471 rfl rfl
set_option maxRecDepth 20000 in
theorem wd_472 : Cond.instanceMethod y_M_begin ∈ sx_gw := sx_wd 472 rfl rfl
set_option maxRecDepth 20000 in
theorem wd_473 : Cond.selects R_M y_M_begin y_M_begin ∈ sx_gw := sx_wd 473 rfl rfl
set_option maxRecDepth 20000 in
theorem wd_474 : Cond.code y_M_begin b_M_begin 5 (some .int) ∈ sx_gw := sx_wd 474 rfl rfl
set_option maxRecDepth 20000 in
theorem wd_475 : Cond.methodLink R_M (95 : Nat) y_M_isDeclared ∈ sx_gw := sx_wd 475 rfl rfl
set_option maxRecDepth 20000 in
theorem wd_477 : Cond.instanceMethod y_M_isDeclared ∈ sx_gw := sx_wd 477 rfl rfl
set_option maxRecDepth 20000 in
theorem wd_478 : Cond.code y_M_isDeclared b_M_isDeclared 6 (some .boolean) ∈ sx_gw := sx_wd 478 rfl rfl
set_option maxRecDepth 20000 in
theorem wd_479 : Cond.methodLink R_L (59 : Nat) y_M_open ∈ sx_gw := sx_wd 479 rfl rfl
set_option maxRecDepth 20000 in
theorem wd_480 : Cond.instanceMethod y_M_open ∈ sx_gw := sx_wd 480 rfl rfl
set_option maxRecDepth 20000 in
theorem wd_481 : Cond.selects R_M y_M_open y_M_open ∈ sx_gw := sx_wd 481 rfl rfl
set_option maxRecDepth 20000 in
theorem wd_482 : Cond.code y_M_open b_M_open 7 (some .int) ∈ sx_gw := sx_wd 482 rfl rfl
set_option maxRecDepth 20000 in
theorem wd_483 : Cond.methodLink R_M (105 : Nat) y_M_may ∈ sx_gw := sx_wd 483 rfl rfl
set_option maxRecDepth 20000 in
theorem wd_485 : Cond.instanceMethod y_M_may ∈ sx_gw := sx_wd 485 rfl rfl
set_option maxRecDepth 20000 in
theorem wd_486 : Cond.code y_M_may b_M_may 4 (some .int) ∈ sx_gw := sx_wd 486 rfl rfl
set_option maxRecDepth 20000 in
theorem wd_487 : Cond.methodLink R_M (109 : Nat) y_M_leads ∈ sx_gw := sx_wd 487 rfl rfl
set_option maxRecDepth 20000 in
theorem wd_489 : Cond.instanceMethod y_M_leads ∈ sx_gw := sx_wd 489 rfl rfl
set_option maxRecDepth 20000 in
theorem wd_490 : Cond.code y_M_leads b_M_leads 5 (some .int) ∈ sx_gw := sx_wd 490 rfl rfl
set_option maxRecDepth 20000 in
theorem wd_491 : Cond.methodLink R_M (99 : Nat) y_M_at ∈ sx_gw := sx_wd 491 rfl rfl
set_option maxRecDepth 20000 in
theorem wd_493 : Cond.instanceMethod y_M_at ∈ sx_gw := sx_wd 493 rfl rfl
set_option maxRecDepth 20000 in
theorem wd_494 : Cond.code y_M_at b_M_at 3 (some .int) ∈ sx_gw := sx_wd 494 rfl rfl
set_option maxRecDepth 20000 in
theorem wd_495 : Cond.methodLink R_M (102 : Nat) y_M_goal ∈ sx_gw := sx_wd 495 rfl rfl
set_option maxRecDepth 20000 in
theorem wd_496 : Cond.static y_M_goal ∈ sx_gw := sx_wd 496 rfl rfl
set_option maxRecDepth 20000 in
theorem wd_497 : Cond.code y_M_goal b_M_goal 1 (some .int) ∈ sx_gw := sx_wd 497 rfl rfl
set_option maxRecDepth 20000 in
theorem wd_498 : Cond.methodLink R_L (64 : Nat) y_M_write ∈ sx_gw := sx_wd 498 rfl rfl
set_option maxRecDepth 20000 in
theorem wd_499 : Cond.instanceMethod y_M_write ∈ sx_gw := sx_wd 499 rfl rfl
set_option maxRecDepth 20000 in
theorem wd_500 : Cond.selects R_M y_M_write y_M_write ∈ sx_gw := sx_wd 500 rfl rfl
set_option maxRecDepth 20000 in
theorem wd_501 : Cond.code y_M_write b_M_write 5 (some .int) ∈ sx_gw := sx_wd 501 rfl rfl
set_option maxRecDepth 20000 in
theorem wd_502 : Cond.methodLink R_M (112 : Nat) y_M_isWritable ∈ sx_gw := sx_wd 502 rfl rfl
set_option maxRecDepth 20000 in
theorem wd_504 : Cond.instanceMethod y_M_isWritable ∈ sx_gw := sx_wd 504 rfl rfl
set_option maxRecDepth 20000 in
theorem wd_505 : Cond.code y_M_isWritable b_M_isWritable 4 (some .boolean) ∈ sx_gw := sx_wd 505 rfl rfl
set_option maxRecDepth 20000 in
theorem wd_506 : Cond.methodLink R_M (115 : Nat) y_M_isInWay ∈ sx_gw := sx_wd 506 rfl rfl
set_option maxRecDepth 20000 in
theorem wd_508 : Cond.instanceMethod y_M_isInWay ∈ sx_gw := sx_wd 508 rfl rfl
set_option maxRecDepth 20000 in
theorem wd_509 : Cond.code y_M_isInWay b_M_isInWay 5 (some .boolean) ∈ sx_gw := sx_wd 509 rfl rfl
set_option maxRecDepth 20000 in
theorem wd_510 : Cond.methodLink R_M (118 : Nat) y_M_refuse ∈ sx_gw := sx_wd 510 rfl rfl
set_option maxRecDepth 20000 in
theorem wd_512 : Cond.instanceMethod y_M_refuse ∈ sx_gw := sx_wd 512 rfl rfl
set_option maxRecDepth 20000 in
theorem wd_513 : Cond.code y_M_refuse b_M_refuse 2 (some .int) ∈ sx_gw := sx_wd 513 rfl rfl
set_option maxRecDepth 20000 in
theorem wd_514 : Cond.methodLink R_L (68 : Nat) y_M_link ∈ sx_gw := sx_wd 514 rfl rfl
set_option maxRecDepth 20000 in
theorem wd_515 : Cond.instanceMethod y_M_link ∈ sx_gw := sx_wd 515 rfl rfl
set_option maxRecDepth 20000 in
theorem wd_516 : Cond.selects R_M y_M_link y_M_link ∈ sx_gw := sx_wd 516 rfl rfl
set_option maxRecDepth 20000 in
theorem wd_517 : Cond.code y_M_link b_M_link 5 (some .int) ∈ sx_gw := sx_wd 517 rfl rfl
set_option maxRecDepth 20000 in
theorem wd_518 : Cond.methodLink R_L (72 : Nat) y_M_remove ∈ sx_gw := sx_wd 518 rfl rfl
set_option maxRecDepth 20000 in
theorem wd_519 : Cond.instanceMethod y_M_remove ∈ sx_gw := sx_wd 519 rfl rfl
set_option maxRecDepth 20000 in
theorem wd_520 : Cond.selects R_M y_M_remove y_M_remove ∈ sx_gw := sx_wd 520 rfl rfl
set_option maxRecDepth 20000 in
theorem wd_521 : Cond.code y_M_remove b_M_remove 4 (some .int) ∈ sx_gw := sx_wd 521 rfl rfl
set_option maxRecDepth 20000 in
theorem wd_522 : Cond.methodLink R_L (76 : Nat) y_M_list ∈ sx_gw := sx_wd 522 rfl rfl
set_option maxRecDepth 20000 in
theorem wd_523 : Cond.instanceMethod y_M_list ∈ sx_gw := sx_wd 523 rfl rfl
set_option maxRecDepth 20000 in
theorem wd_524 : Cond.selects R_M y_M_list y_M_list ∈ sx_gw := sx_wd 524 rfl rfl
set_option maxRecDepth 20000 in
theorem wd_525 : Cond.code y_M_list b_M_list 8 (some .int) ∈ sx_gw := sx_wd 525 rfl rfl
set_option maxRecDepth 20000 in
theorem wd_526 : Cond.methodLink R_M (121 : Nat) y_M_hasUnder ∈ sx_gw := sx_wd 526 rfl rfl
set_option maxRecDepth 20000 in
theorem wd_528 : Cond.instanceMethod y_M_hasUnder ∈ sx_gw := sx_wd 528 rfl rfl
set_option maxRecDepth 20000 in
theorem wd_529 : Cond.code y_M_hasUnder b_M_hasUnder 5 (some .boolean) ∈ sx_gw := sx_wd 529 rfl rfl
set_option maxRecDepth 20000 in
theorem wd_530 : Cond.methodLink R_L (81 : Nat) y_M_finish ∈ sx_gw := sx_wd 530 rfl rfl
set_option maxRecDepth 20000 in
theorem wd_531 : Cond.instanceMethod y_M_finish ∈ sx_gw := sx_wd 531 rfl rfl
set_option maxRecDepth 20000 in
theorem wd_532 : Cond.selects R_M y_M_finish y_M_finish ∈ sx_gw := sx_wd 532 rfl rfl
set_option maxRecDepth 20000 in
theorem wd_533 : Cond.code y_M_finish b_M_finish 4 (some .int) ∈ sx_gw := sx_wd 533 rfl rfl
set_option maxRecDepth 20000 in
theorem wd_534 : Cond.methodLink R_M (135 : Nat) y_M_ended ∈ sx_gw := sx_wd 534 rfl rfl
set_option maxRecDepth 20000 in
theorem wd_536 : Cond.instanceMethod y_M_ended ∈ sx_gw := sx_wd 536 rfl rfl
set_option maxRecDepth 20000 in
theorem wd_537 : Cond.code y_M_ended b_M_ended 6 (some .int) ∈ sx_gw := sx_wd 537 rfl rfl
set_option maxRecDepth 20000 in
theorem wd_538 : Cond.methodLink R_M (124 : Nat) y_M_isLoose ∈ sx_gw := sx_wd 538 rfl rfl
set_option maxRecDepth 20000 in
theorem wd_540 : Cond.instanceMethod y_M_isLoose ∈ sx_gw := sx_wd 540 rfl rfl
set_option maxRecDepth 20000 in
theorem wd_541 : Cond.code y_M_isLoose b_M_isLoose 5 (some .boolean) ∈ sx_gw := sx_wd 541 rfl rfl
set_option maxRecDepth 20000 in
theorem wd_542 : Cond.methodLink R_M (127 : Nat) y_M_mark ∈ sx_gw := sx_wd 542 rfl rfl
set_option maxRecDepth 20000 in
theorem wd_544 : Cond.instanceMethod y_M_mark ∈ sx_gw := sx_wd 544 rfl rfl
set_option maxRecDepth 20000 in
theorem wd_545 : Cond.code y_M_mark b_M_mark 4 none ∈ sx_gw := sx_wd 545 rfl rfl
set_option maxRecDepth 20000 in
theorem wd_546 : Cond.methodLink R_M (131 : Nat) y_M_clashes ∈ sx_gw := sx_wd 546 rfl rfl
set_option maxRecDepth 20000 in
theorem wd_548 : Cond.instanceMethod y_M_clashes ∈ sx_gw := sx_wd 548 rfl rfl
set_option maxRecDepth 20000 in
theorem wd_549 : Cond.code y_M_clashes b_M_clashes 4 (some .boolean) ∈ sx_gw := sx_wd 549 rfl rfl
set_option maxRecDepth 20000 in
theorem wd_550 : Cond.methodLink R_L (85 : Nat) y_M_tried ∈ sx_gw := sx_wd 550 rfl rfl
set_option maxRecDepth 20000 in
theorem wd_551 : Cond.instanceMethod y_M_tried ∈ sx_gw := sx_wd 551 rfl rfl
set_option maxRecDepth 20000 in
theorem wd_552 : Cond.selects R_M y_M_tried y_M_tried ∈ sx_gw := sx_wd 552 rfl rfl
set_option maxRecDepth 20000 in
theorem wd_553 : Cond.code y_M_tried b_M_tried 3 (some .int) ∈ sx_gw := sx_wd 553 rfl rfl
set_option maxRecDepth 20000 in
theorem wd_554 : Cond.methodLink R_L (89 : Nat) y_M_about ∈ sx_gw := sx_wd 554 rfl rfl
set_option maxRecDepth 20000 in
theorem wd_555 : Cond.instanceMethod y_M_about ∈ sx_gw := sx_wd 555 rfl rfl
set_option maxRecDepth 20000 in
theorem wd_556 : Cond.selects R_M y_M_about y_M_about ∈ sx_gw := sx_wd 556 rfl rfl
set_option maxRecDepth 20000 in
theorem wd_557 : Cond.code y_M_about b_M_about 3 (some .int) ∈ sx_gw := sx_wd 557 rfl rfl
theorem ws_0 : Cond.selects R_X y_X_actionAt y_X_actionAt ∈ sx_gw := sx_wsel 0 rfl rfl
theorem ws_1 : Cond.selects R_X y_X_touchesDeclared y_X_touchesDeclared ∈ sx_gw := sx_wsel 1 rfl rfl
theorem ws_2 : Cond.selects R_X y_X_lacksInput y_X_lacksInput ∈ sx_gw := sx_wsel 2 rfl rfl
theorem ws_3 : Cond.selects R_X y_X_underDeclared y_X_underDeclared ∈ sx_gw := sx_wsel 3 rfl rfl
theorem ws_4 : Cond.selects R_X y_X_runningAt y_X_runningAt ∈ sx_gw := sx_wsel 4 rfl rfl
theorem ws_5 : Cond.selects R_X y_X_canPut y_X_canPut ∈ sx_gw := sx_wsel 5 rfl rfl
theorem ws_6 : Cond.selects R_X y_X_writable y_X_writable ∈ sx_gw := sx_wsel 6 rfl rfl
theorem ws_7 : Cond.selects R_X y_X_scratch y_X_scratch ∈ sx_gw := sx_wsel 7 rfl rfl
theorem ws_8 : Cond.selects R_X y_X_refuse y_X_refuse ∈ sx_gw := sx_wsel 8 rfl rfl
theorem ws_9 : Cond.selects R_X y_X_firstOutputFault y_X_firstOutputFault ∈ sx_gw := sx_wsel 9 rfl rfl
theorem ws_10 : Cond.selects R_X y_X_gather y_X_gather ∈ sx_gw := sx_wsel 10 rfl rfl
theorem ws_11 : Cond.selects R_M y_M_isPath y_M_isPath ∈ sx_gw := sx_wsel 11 rfl rfl
theorem ws_12 : Cond.selects R_M y_M_child y_M_child ∈ sx_gw := sx_wsel 12 rfl rfl
theorem ws_13 : Cond.selects R_M y_M_isUnder y_M_isUnder ∈ sx_gw := sx_wsel 13 rfl rfl
theorem ws_14 : Cond.selects R_M y_M_isAction y_M_isAction ∈ sx_gw := sx_wsel 14 rfl rfl
theorem ws_15 : Cond.selects R_M y_M_isDeclared y_M_isDeclared ∈ sx_gw := sx_wsel 15 rfl rfl
theorem ws_16 : Cond.selects R_M y_M_may y_M_may ∈ sx_gw := sx_wsel 16 rfl rfl
theorem ws_17 : Cond.selects R_M y_M_leads y_M_leads ∈ sx_gw := sx_wsel 17 rfl rfl
theorem ws_18 : Cond.selects R_M y_M_at y_M_at ∈ sx_gw := sx_wsel 18 rfl rfl
theorem ws_19 : Cond.selects R_M y_M_isWritable y_M_isWritable ∈ sx_gw := sx_wsel 19 rfl rfl
theorem ws_20 : Cond.selects R_M y_M_isInWay y_M_isInWay ∈ sx_gw := sx_wsel 20 rfl rfl
theorem ws_21 : Cond.selects R_M y_M_refuse y_M_refuse ∈ sx_gw := sx_wsel 21 rfl rfl
theorem ws_22 : Cond.selects R_M y_M_hasUnder y_M_hasUnder ∈ sx_gw := sx_wsel 22 rfl rfl
theorem ws_23 : Cond.selects R_M y_M_ended y_M_ended ∈ sx_gw := sx_wsel 23 rfl rfl
theorem ws_24 : Cond.selects R_M y_M_isLoose y_M_isLoose ∈ sx_gw := sx_wsel 24 rfl rfl
theorem ws_25 : Cond.selects R_M y_M_mark y_M_mark ∈ sx_gw := sx_wsel 25 rfl rfl
theorem ws_26 : Cond.selects R_M y_M_clashes y_M_clashes ∈ sx_gw := sx_wsel 26 rfl rfl
theorem iw_A : ∀ w ∈ u_ws R_A T_A 12, w ∈ sx_gw := by
  intro w hw
  obtain ⟨k, hk, rfl⟩ := List.mem_map.mp hw
  have hk := List.mem_range.mp hk
  match k, hk with
  | 0, _ => exact wd_182
  | 1, _ => exact wd_184
  | 2, _ => exact wd_186
  | 3, _ => exact wd_188
  | 4, _ => exact wd_190
  | 5, _ => exact wd_192
  | 6, _ => exact wd_194
  | 7, _ => exact wd_196
  | 8, _ => exact wd_198
  | 9, _ => exact wd_200
  | 10, _ => exact wd_202
  | 11, _ => exact wd_204
  | k + 12, h => exact absurd h (by omega)
theorem iw_P : ∀ w ∈ u_ws R_P T_P 5, w ∈ sx_gw := by
  intro w hw
  obtain ⟨k, hk, rfl⟩ := List.mem_map.mp hw
  have hk := List.mem_range.mp hk
  match k, hk with
  | 0, _ => exact wd_37
  | 1, _ => exact wd_39
  | 2, _ => exact wd_41
  | 3, _ => exact wd_43
  | 4, _ => exact wd_45
  | k + 5, h => exact absurd h (by omega)
theorem iw_S : ∀ w ∈ u_ws R_S T_S 3, w ∈ sx_gw := by
  intro w hw
  obtain ⟨k, hk, rfl⟩ := List.mem_map.mp hw
  have hk := List.mem_range.mp hk
  match k, hk with
  | 0, _ => exact wd_60
  | 1, _ => exact wd_62
  | 2, _ => exact wd_64
  | k + 3, h => exact absurd h (by omega)
theorem iw_X : ∀ w ∈ u_ws R_X T_X 6, w ∈ sx_gw := by
  intro w hw
  obtain ⟨k, hk, rfl⟩ := List.mem_map.mp hw
  have hk := List.mem_range.mp hk
  match k, hk with
  | 0, _ => exact wd_75
  | 1, _ => exact wd_77
  | 2, _ => exact wd_79
  | 3, _ => exact wd_81
  | 4, _ => exact wd_83
  | 5, _ => exact wd_85
  | k + 6, h => exact absurd h (by omega)
theorem iw_M : ∀ w ∈ u_ws R_M T_M 21, w ∈ sx_gw := by
  intro w hw
  obtain ⟨k, hk, rfl⟩ := List.mem_map.mp hw
  have hk := List.mem_range.mp hk
  match k, hk with
  | 0, _ => exact wd_385
  | 1, _ => exact wd_387
  | 2, _ => exact wd_389
  | 3, _ => exact wd_391
  | 4, _ => exact wd_393
  | 5, _ => exact wd_395
  | 6, _ => exact wd_397
  | 7, _ => exact wd_399
  | 8, _ => exact wd_401
  | 9, _ => exact wd_403
  | 10, _ => exact wd_405
  | 11, _ => exact wd_407
  | 12, _ => exact wd_409
  | 13, _ => exact wd_411
  | 14, _ => exact wd_413
  | 15, _ => exact wd_415
  | 16, _ => exact wd_417
  | 17, _ => exact wd_419
  | 18, _ => exact wd_421
  | 19, _ => exact wd_423
  | 20, _ => exact wd_425
  | k + 21, h => exact absurd h (by omega)
abbrev w_X_init : List Cond := Cond.code y_X_init b_X_init 2 none :: sx_gw
abbrev w_P_init : List Cond := Cond.code y_P_init b_P_init 1 none :: sx_gw
abbrev w_X_only : List Cond := Cond.code y_X_only b_X_only 1 (some .long) :: sx_gw
abbrev w_S_init : List Cond := Cond.code y_S_init b_S_init 1 none :: sx_gw
abbrev w_X_path : List Cond := Cond.code y_X_path b_X_path 4 (some .int) :: sx_gw
abbrev w_P_has : List Cond := Cond.code y_P_has b_P_has 2 (some .boolean) :: sx_gw
abbrev w_X_isLetter : List Cond := Cond.code y_X_isLetter b_X_isLetter 1 (some .boolean) :: sx_gw
abbrev w_P_find : List Cond := Cond.code y_P_find b_P_find 4 (some .int) :: sx_gw
abbrev w_P_add : List Cond := Cond.code y_P_add b_P_add 5 (some .int) :: sx_gw
abbrev w_X_holds : List Cond := Cond.code y_X_holds b_X_holds 3 (some .boolean) :: sx_gw
abbrev w_X_file : List Cond := Cond.code y_X_file b_X_file 3 (some .boolean) :: sx_gw
abbrev w_P_inTheWayOf : List Cond := Cond.code y_P_inTheWayOf b_P_inTheWayOf 2 (some .long) :: sx_gw
abbrev w_S_taken : List Cond := Cond.code y_S_taken b_S_taken 1 (some .long) :: sx_gw
abbrev w_S_takeAway : List Cond := Cond.code y_S_takeAway b_S_takeAway 2 none :: sx_gw
abbrev w_S_putFile : List Cond := Cond.code y_S_putFile b_S_putFile 3 none :: sx_gw
abbrev w_S_canHold : List Cond := Cond.code y_S_canHold b_S_canHold 1 (some .boolean) :: sx_gw
abbrev w_X_source : List Cond := Cond.code y_X_source b_X_source 2 (some .int) :: sx_gw
abbrev w_S_leadsTo : List Cond := Cond.code y_S_leadsTo b_S_leadsTo 4 (some .int) :: sx_gw
abbrev w_X_action : List Cond := Cond.code y_X_action b_X_action 2 (some .int) :: sx_gw
abbrev w_A_init : List Cond := Cond.code y_A_init b_A_init 1 none :: sx_gw
abbrev w_X_declare : List Cond := Cond.code y_X_declare b_X_declare 5 (some .int) :: sx_gw
abbrev w_X_actionAt : List Cond := Cond.code y_X_actionAt b_X_actionAt 2 (some (.object "SandboxTree$Action")) :: sx_gw
abbrev w_X_touchesDeclared : List Cond := Cond.code y_X_touchesDeclared b_X_touchesDeclared 6 (some .boolean) :: sx_gw
abbrev w_A_addDeclared : List Cond := Cond.code y_A_addDeclared b_A_addDeclared 3 none :: sx_gw
abbrev w_X_strict : List Cond := Cond.code y_X_strict b_X_strict 2 none :: sx_gw
abbrev w_X_begin : List Cond := Cond.code y_X_begin b_X_begin 3 (some .int) :: sx_gw
abbrev w_X_lacksInput : List Cond := Cond.code y_X_lacksInput b_X_lacksInput 5 (some .boolean) :: sx_gw
abbrev w_P_under : List Cond := Cond.code y_P_under b_P_under 2 (some .long) :: sx_gw
abbrev w_A_startWorld : List Cond := Cond.code y_A_startWorld b_A_startWorld 1 none :: sx_gw
abbrev w_X_underDeclared : List Cond := Cond.code y_X_underDeclared b_X_underDeclared 6 (some .long) :: sx_gw
abbrev w_S_copyFiles : List Cond := Cond.code y_S_copyFiles b_S_copyFiles 4 none :: sx_gw
abbrev w_J_bitCount : List Cond := Cond.code y_J_bitCount b_J_bitCount 2 (some .int) :: sx_gw
abbrev w_X_open : List Cond := Cond.code y_X_open b_X_open 5 (some .int) :: sx_gw
abbrev w_X_runningAt : List Cond := Cond.code y_X_runningAt b_X_runningAt 3 (some (.object "SandboxTree$Action")) :: sx_gw
abbrev w_A_startOperation : List Cond := Cond.code y_A_startOperation b_A_startOperation 2 (some .boolean) :: sx_gw
abbrev w_A_noteTried : List Cond := Cond.code y_A_noteTried b_A_noteTried 2 none :: sx_gw
abbrev w_X_write : List Cond := Cond.code y_X_write b_X_write 5 (some .int) :: sx_gw
abbrev w_X_canPut : List Cond := Cond.code y_X_canPut b_X_canPut 3 (some .boolean) :: sx_gw
abbrev w_X_writable : List Cond := Cond.code y_X_writable b_X_writable 2 (some .long) :: sx_gw
abbrev w_X_scratch : List Cond := Cond.code y_X_scratch b_X_scratch 3 (some .long) :: sx_gw
abbrev w_X_refuse : List Cond := Cond.code y_X_refuse b_X_refuse 2 (some .int) :: sx_gw
abbrev w_X_link : List Cond := Cond.code y_X_link b_X_link 7 (some .int) :: sx_gw
abbrev w_S_putLink : List Cond := Cond.code y_S_putLink b_S_putLink 3 none :: sx_gw
abbrev w_X_remove : List Cond := Cond.code y_X_remove b_X_remove 4 (some .int) :: sx_gw
abbrev w_X_list : List Cond := Cond.code y_X_list b_X_list 5 (some .int) :: sx_gw
abbrev w_P_letterInFolder : List Cond := Cond.code y_P_letterInFolder b_P_letterInFolder 9 (some .int) :: sx_gw
abbrev w_X_finish : List Cond := Cond.code y_X_finish b_X_finish 5 (some .int) :: sx_gw
abbrev w_X_firstOutputFault : List Cond := Cond.code y_X_firstOutputFault b_X_firstOutputFault 6 (some .int) :: sx_gw
abbrev w_S_hasLooseLink : List Cond := Cond.code y_S_hasLooseLink b_S_hasLooseLink 4 (some .boolean) :: sx_gw
abbrev w_X_gather : List Cond := Cond.code y_X_gather b_X_gather 11 (some .int) :: sx_gw
abbrev w_P_withAbove : List Cond := Cond.code y_P_withAbove b_P_withAbove 6 (some .long) :: sx_gw
abbrev w_P_hasClash : List Cond := Cond.code y_P_hasClash b_P_hasClash 5 (some .boolean) :: sx_gw
abbrev w_X_tried : List Cond := Cond.code y_X_tried b_X_tried 4 (some .int) :: sx_gw
abbrev w_X_about : List Cond := Cond.code y_X_about b_X_about 4 (some .int) :: sx_gw
abbrev w_L_cell : List Cond := Cond.code y_L_cell b_L_cell 2 (some .int) :: sx_gw
abbrev w_M_init : List Cond := Cond.code y_M_init b_M_init 2 none :: sx_gw
abbrev w_M_path : List Cond := Cond.code y_M_path b_M_path 4 (some .int) :: sx_gw
abbrev w_M_isPath : List Cond := Cond.code y_M_isPath b_M_isPath 2 (some .boolean) :: sx_gw
abbrev w_M_lower : List Cond := Cond.code y_M_lower b_M_lower 1 (some .int) :: sx_gw
abbrev w_M_child : List Cond := Cond.code y_M_child b_M_child 5 (some .int) :: sx_gw
abbrev w_M_file : List Cond := Cond.code y_M_file b_M_file 4 (some .boolean) :: sx_gw
abbrev w_M_isUnder : List Cond := Cond.code y_M_isUnder b_M_isUnder 4 (some .boolean) :: sx_gw
abbrev w_M_source : List Cond := Cond.code y_M_source b_M_source 2 (some .int) :: sx_gw
abbrev w_M_action : List Cond := Cond.code y_M_action b_M_action 1 (some .int) :: sx_gw
abbrev w_M_declare : List Cond := Cond.code y_M_declare b_M_declare 5 (some .int) :: sx_gw
abbrev w_M_isAction : List Cond := Cond.code y_M_isAction b_M_isAction 2 (some .boolean) :: sx_gw
abbrev w_M_strict : List Cond := Cond.code y_M_strict b_M_strict 2 none :: sx_gw
abbrev w_M_begin : List Cond := Cond.code y_M_begin b_M_begin 5 (some .int) :: sx_gw
abbrev w_M_isDeclared : List Cond := Cond.code y_M_isDeclared b_M_isDeclared 6 (some .boolean) :: sx_gw
abbrev w_M_open : List Cond := Cond.code y_M_open b_M_open 7 (some .int) :: sx_gw
abbrev w_M_may : List Cond := Cond.code y_M_may b_M_may 4 (some .int) :: sx_gw
abbrev w_M_leads : List Cond := Cond.code y_M_leads b_M_leads 5 (some .int) :: sx_gw
abbrev w_M_at : List Cond := Cond.code y_M_at b_M_at 3 (some .int) :: sx_gw
abbrev w_M_goal : List Cond := Cond.code y_M_goal b_M_goal 1 (some .int) :: sx_gw
abbrev w_M_write : List Cond := Cond.code y_M_write b_M_write 5 (some .int) :: sx_gw
abbrev w_M_isWritable : List Cond := Cond.code y_M_isWritable b_M_isWritable 4 (some .boolean) :: sx_gw
abbrev w_M_isInWay : List Cond := Cond.code y_M_isInWay b_M_isInWay 5 (some .boolean) :: sx_gw
abbrev w_M_refuse : List Cond := Cond.code y_M_refuse b_M_refuse 2 (some .int) :: sx_gw
abbrev w_M_link : List Cond := Cond.code y_M_link b_M_link 5 (some .int) :: sx_gw
abbrev w_M_remove : List Cond := Cond.code y_M_remove b_M_remove 4 (some .int) :: sx_gw
abbrev w_M_list : List Cond := Cond.code y_M_list b_M_list 8 (some .int) :: sx_gw
abbrev w_M_hasUnder : List Cond := Cond.code y_M_hasUnder b_M_hasUnder 5 (some .boolean) :: sx_gw
abbrev w_M_finish : List Cond := Cond.code y_M_finish b_M_finish 4 (some .int) :: sx_gw
abbrev w_M_ended : List Cond := Cond.code y_M_ended b_M_ended 6 (some .int) :: sx_gw
abbrev w_M_isLoose : List Cond := Cond.code y_M_isLoose b_M_isLoose 5 (some .boolean) :: sx_gw
abbrev w_M_mark : List Cond := Cond.code y_M_mark b_M_mark 4 none :: sx_gw
abbrev w_M_clashes : List Cond := Cond.code y_M_clashes b_M_clashes 4 (some .boolean) :: sx_gw
abbrev w_M_tried : List Cond := Cond.code y_M_tried b_M_tried 3 (some .int) :: sx_gw
abbrev w_M_about : List Cond := Cond.code y_M_about b_M_about 3 (some .int) :: sx_gw
end
section
theorem d_X_init_0 : decode b_X_init 0 = .ok (.aload_n 0, 1) := by decide +kernel
theorem d_X_init_1 : decode b_X_init 1 = .ok (.invokespecial 1, 3) := by decide +kernel
theorem d_X_init_4 : decode b_X_init 4 = .ok (.aload_n 0, 1) := by decide +kernel
theorem d_X_init_5 : decode b_X_init 5 = .ok (.iconst 1, 1) := by decide +kernel
theorem d_X_init_6 : decode b_X_init 6 = .ok (.sipush 500, 3) := by decide +kernel
theorem d_X_init_9 : decode b_X_init 9 = .ok (.iload_n 1, 1) := by decide +kernel
theorem d_X_init_10 : decode b_X_init 10 = .ok (.invokestatic 9, 3) := by decide +kernel
theorem d_X_init_13 : decode b_X_init 13 = .ok (.invokestatic 15, 3) := by decide +kernel
theorem d_X_init_16 : decode b_X_init 16 = .ok (.putfield 18, 3) := by decide +kernel
theorem d_X_init_19 : decode b_X_init 19 = .ok (.aload_n 0, 1) := by decide +kernel
theorem d_X_init_20 : decode b_X_init 20 = .ok (.new 22, 3) := by decide +kernel
theorem d_X_init_23 : decode b_X_init 23 = .ok (.dup, 1) := by decide +kernel
theorem d_X_init_24 : decode b_X_init 24 = .ok (.invokespecial 24, 3) := by decide +kernel
theorem d_X_init_27 : decode b_X_init 27 = .ok (.putfield 25, 3) := by decide +kernel
theorem d_X_init_30 : decode b_X_init 30 = .ok (.aload_n 0, 1) := by decide +kernel
theorem d_X_init_31 : decode b_X_init 31 = .ok (.new 29, 3) := by decide +kernel
theorem d_X_init_34 : decode b_X_init 34 = .ok (.dup, 1) := by decide +kernel
theorem d_X_init_35 : decode b_X_init 35 = .ok (.invokespecial 31, 3) := by decide +kernel
theorem d_X_init_38 : decode b_X_init 38 = .ok (.putfield 32, 3) := by decide +kernel
theorem d_X_init_41 : decode b_X_init 41 = .ok (.aload_n 0, 1) := by decide +kernel
theorem d_X_init_42 : decode b_X_init 42 = .ok (.bipush 10, 2) := by decide +kernel
theorem d_X_init_44 : decode b_X_init 44 = .ok (.anewarray 36, 3) := by decide +kernel
theorem d_X_init_47 : decode b_X_init 47 = .ok (.putfield 38, 3) := by decide +kernel
theorem d_X_init_50 : decode b_X_init 50 = .ok (.return_, 1) := by decide +kernel
theorem d_X_path_0 : decode b_X_path 0 = .ok (.aload_n 0, 1) := by decide +kernel
theorem d_X_path_1 : decode b_X_path 1 = .ok (.getfield 25, 3) := by decide +kernel
theorem d_X_path_4 : decode b_X_path 4 = .ok (.iload_n 1, 1) := by decide +kernel
theorem d_X_path_5 : decode b_X_path 5 = .ok (.invokevirtual 42, 3) := by decide +kernel
theorem d_X_path_8 : decode b_X_path 8 = .ok (.ifCond .eq 10, 3) := by decide +kernel
theorem d_X_path_11 : decode b_X_path 11 = .ok (.iload_n 2, 1) := by decide +kernel
theorem d_X_path_12 : decode b_X_path 12 = .ok (.invokestatic 46, 3) := by decide +kernel
theorem d_X_path_15 : decode b_X_path 15 = .ok (.ifCond .ne 5, 3) := by decide +kernel
theorem d_X_path_18 : decode b_X_path 18 = .ok (.iconst (-1), 1) := by decide +kernel
theorem d_X_path_19 : decode b_X_path 19 = .ok (.ireturn, 1) := by decide +kernel
theorem d_X_path_20 : decode b_X_path 20 = .ok (.aload_n 0, 1) := by decide +kernel
theorem d_X_path_21 : decode b_X_path 21 = .ok (.getfield 25, 3) := by decide +kernel
theorem d_X_path_24 : decode b_X_path 24 = .ok (.iload_n 1, 1) := by decide +kernel
theorem d_X_path_25 : decode b_X_path 25 = .ok (.iload_n 2, 1) := by decide +kernel
theorem d_X_path_26 : decode b_X_path 26 = .ok (.invokevirtual 50, 3) := by decide +kernel
theorem d_X_path_29 : decode b_X_path 29 = .ok (.istore_n 3, 1) := by decide +kernel
theorem d_X_path_30 : decode b_X_path 30 = .ok (.iload_n 3, 1) := by decide +kernel
theorem d_X_path_31 : decode b_X_path 31 = .ok (.iconst (-1), 1) := by decide +kernel
theorem d_X_path_32 : decode b_X_path 32 = .ok (.if_icmp .eq 7, 3) := by decide +kernel
theorem d_X_path_35 : decode b_X_path 35 = .ok (.iload_n 3, 1) := by decide +kernel
theorem d_X_path_36 : decode b_X_path 36 = .ok (.goto 12, 3) := by decide +kernel
theorem d_X_path_39 : decode b_X_path 39 = .ok (.aload_n 0, 1) := by decide +kernel
theorem d_X_path_40 : decode b_X_path 40 = .ok (.getfield 25, 3) := by decide +kernel
theorem d_X_path_43 : decode b_X_path 43 = .ok (.iload_n 1, 1) := by decide +kernel
theorem d_X_path_44 : decode b_X_path 44 = .ok (.iload_n 2, 1) := by decide +kernel
theorem d_X_path_45 : decode b_X_path 45 = .ok (.invokevirtual 54, 3) := by decide +kernel
theorem d_X_path_48 : decode b_X_path 48 = .ok (.ireturn, 1) := by decide +kernel
theorem d_X_file_0 : decode b_X_file 0 = .ok (.aload_n 0, 1) := by decide +kernel
theorem d_X_file_1 : decode b_X_file 1 = .ok (.getfield 25, 3) := by decide +kernel
theorem d_X_file_4 : decode b_X_file 4 = .ok (.iload_n 1, 1) := by decide +kernel
theorem d_X_file_5 : decode b_X_file 5 = .ok (.invokevirtual 42, 3) := by decide +kernel
theorem d_X_file_8 : decode b_X_file 8 = .ok (.ifCond .eq 11, 3) := by decide +kernel
theorem d_X_file_11 : decode b_X_file 11 = .ok (.iload_n 1, 1) := by decide +kernel
theorem d_X_file_12 : decode b_X_file 12 = .ok (.ifCond .eq 7, 3) := by decide +kernel
theorem d_X_file_15 : decode b_X_file 15 = .ok (.iload_n 2, 1) := by decide +kernel
theorem d_X_file_16 : decode b_X_file 16 = .ok (.ifCond .ge 5, 3) := by decide +kernel
theorem d_X_file_19 : decode b_X_file 19 = .ok (.iconst 0, 1) := by decide +kernel
theorem d_X_file_20 : decode b_X_file 20 = .ok (.ireturn, 1) := by decide +kernel
theorem d_X_file_21 : decode b_X_file 21 = .ok (.aload_n 0, 1) := by decide +kernel
theorem d_X_file_22 : decode b_X_file 22 = .ok (.getfield 25, 3) := by decide +kernel
theorem d_X_file_25 : decode b_X_file 25 = .ok (.iload_n 1, 1) := by decide +kernel
theorem d_X_file_26 : decode b_X_file 26 = .ok (.invokevirtual 57, 3) := by decide +kernel
theorem d_X_file_29 : decode b_X_file 29 = .ok (.aload_n 0, 1) := by decide +kernel
theorem d_X_file_30 : decode b_X_file 30 = .ok (.getfield 32, 3) := by decide +kernel
theorem d_X_file_33 : decode b_X_file 33 = .ok (.invokevirtual 61, 3) := by decide +kernel
theorem d_X_file_36 : decode b_X_file 36 = .ok (.land, 1) := by decide +kernel
theorem d_X_file_37 : decode b_X_file 37 = .ok (.lconst 0, 1) := by decide +kernel
theorem d_X_file_38 : decode b_X_file 38 = .ok (.lcmp, 1) := by decide +kernel
theorem d_X_file_39 : decode b_X_file 39 = .ok (.ifCond .eq 5, 3) := by decide +kernel
theorem d_X_file_42 : decode b_X_file 42 = .ok (.iconst 0, 1) := by decide +kernel
theorem d_X_file_43 : decode b_X_file 43 = .ok (.ireturn, 1) := by decide +kernel
theorem d_X_file_44 : decode b_X_file 44 = .ok (.iload_n 2, 1) := by decide +kernel
theorem d_X_file_45 : decode b_X_file 45 = .ok (.ifCond .ne 14, 3) := by decide +kernel
theorem d_X_file_48 : decode b_X_file 48 = .ok (.aload_n 0, 1) := by decide +kernel
theorem d_X_file_49 : decode b_X_file 49 = .ok (.getfield 32, 3) := by decide +kernel
theorem d_X_file_52 : decode b_X_file 52 = .ok (.iload_n 1, 1) := by decide +kernel
theorem d_X_file_53 : decode b_X_file 53 = .ok (.invokevirtual 65, 3) := by decide +kernel
theorem d_X_file_56 : decode b_X_file 56 = .ok (.goto 12, 3) := by decide +kernel
theorem d_X_file_59 : decode b_X_file 59 = .ok (.aload_n 0, 1) := by decide +kernel
theorem d_X_file_60 : decode b_X_file 60 = .ok (.getfield 32, 3) := by decide +kernel
theorem d_X_file_63 : decode b_X_file 63 = .ok (.iload_n 1, 1) := by decide +kernel
theorem d_X_file_64 : decode b_X_file 64 = .ok (.iload_n 2, 1) := by decide +kernel
theorem d_X_file_65 : decode b_X_file 65 = .ok (.invokevirtual 69, 3) := by decide +kernel
theorem d_X_file_68 : decode b_X_file 68 = .ok (.iconst 1, 1) := by decide +kernel
theorem d_X_file_69 : decode b_X_file 69 = .ok (.ireturn, 1) := by decide +kernel
theorem d_X_source_0 : decode b_X_source 0 = .ok (.aload_n 0, 1) := by decide +kernel
theorem d_X_source_1 : decode b_X_source 1 = .ok (.getfield 25, 3) := by decide +kernel
theorem d_X_source_4 : decode b_X_source 4 = .ok (.iload_n 1, 1) := by decide +kernel
theorem d_X_source_5 : decode b_X_source 5 = .ok (.invokevirtual 42, 3) := by decide +kernel
theorem d_X_source_8 : decode b_X_source 8 = .ok (.ifCond .eq 14, 3) := by decide +kernel
theorem d_X_source_11 : decode b_X_source 11 = .ok (.aload_n 0, 1) := by decide +kernel
theorem d_X_source_12 : decode b_X_source 12 = .ok (.getfield 32, 3) := by decide +kernel
theorem d_X_source_15 : decode b_X_source 15 = .ok (.iload_n 1, 1) := by decide +kernel
theorem d_X_source_16 : decode b_X_source 16 = .ok (.invokevirtual 73, 3) := by decide +kernel
theorem d_X_source_19 : decode b_X_source 19 = .ok (.goto 4, 3) := by decide +kernel
theorem d_X_source_22 : decode b_X_source 22 = .ok (.iconst 0, 1) := by decide +kernel
theorem d_X_source_23 : decode b_X_source 23 = .ok (.ireturn, 1) := by decide +kernel
theorem d_X_action_0 : decode b_X_action 0 = .ok (.aload_n 0, 1) := by decide +kernel
theorem d_X_action_1 : decode b_X_action 1 = .ok (.getfield 77, 3) := by decide +kernel
theorem d_X_action_4 : decode b_X_action 4 = .ok (.bipush 10, 2) := by decide +kernel
theorem d_X_action_6 : decode b_X_action 6 = .ok (.if_icmp .lt 5, 3) := by decide +kernel
theorem d_X_action_9 : decode b_X_action 9 = .ok (.iconst (-1), 1) := by decide +kernel
theorem d_X_action_10 : decode b_X_action 10 = .ok (.ireturn, 1) := by decide +kernel
theorem d_X_action_11 : decode b_X_action 11 = .ok (.aload_n 0, 1) := by decide +kernel
theorem d_X_action_12 : decode b_X_action 12 = .ok (.getfield 77, 3) := by decide +kernel
theorem d_X_action_15 : decode b_X_action 15 = .ok (.istore_n 1, 1) := by decide +kernel
theorem d_X_action_16 : decode b_X_action 16 = .ok (.aload_n 0, 1) := by decide +kernel
theorem d_X_action_17 : decode b_X_action 17 = .ok (.getfield 38, 3) := by decide +kernel
theorem d_X_action_20 : decode b_X_action 20 = .ok (.iload_n 1, 1) := by decide +kernel
theorem d_X_action_21 : decode b_X_action 21 = .ok (.new 36, 3) := by decide +kernel
theorem d_X_action_24 : decode b_X_action 24 = .ok (.dup, 1) := by decide +kernel
theorem d_X_action_25 : decode b_X_action 25 = .ok (.invokespecial 80, 3) := by decide +kernel
theorem d_X_action_28 : decode b_X_action 28 = .ok (.aastore, 1) := by decide +kernel
theorem d_X_action_29 : decode b_X_action 29 = .ok (.aload_n 0, 1) := by decide +kernel
theorem d_X_action_30 : decode b_X_action 30 = .ok (.dup, 1) := by decide +kernel
theorem d_X_action_31 : decode b_X_action 31 = .ok (.getfield 77, 3) := by decide +kernel
theorem d_X_action_34 : decode b_X_action 34 = .ok (.iconst 1, 1) := by decide +kernel
theorem d_X_action_35 : decode b_X_action 35 = .ok (.iadd, 1) := by decide +kernel
theorem d_X_action_36 : decode b_X_action 36 = .ok (.putfield 77, 3) := by decide +kernel
theorem d_X_action_39 : decode b_X_action 39 = .ok (.iload_n 1, 1) := by decide +kernel
theorem d_X_action_40 : decode b_X_action 40 = .ok (.ireturn, 1) := by decide +kernel
theorem d_X_declare_0 : decode b_X_declare 0 = .ok (.aload_n 0, 1) := by decide +kernel
theorem d_X_declare_1 : decode b_X_declare 1 = .ok (.iload_n 1, 1) := by decide +kernel
theorem d_X_declare_2 : decode b_X_declare 2 = .ok (.invokevirtual 81, 3) := by decide +kernel
theorem d_X_declare_5 : decode b_X_declare 5 = .ok (.astore 4, 2) := by decide +kernel
theorem d_X_declare_7 : decode b_X_declare 7 = .ok (.aload 4, 2) := by decide +kernel
theorem d_X_declare_9 : decode b_X_declare 9 = .ok (.ifnull 18, 3) := by decide +kernel
theorem d_X_declare_12 : decode b_X_declare 12 = .ok (.aload_n 0, 1) := by decide +kernel
theorem d_X_declare_13 : decode b_X_declare 13 = .ok (.getfield 25, 3) := by decide +kernel
theorem d_X_declare_16 : decode b_X_declare 16 = .ok (.iload_n 2, 1) := by decide +kernel
theorem d_X_declare_17 : decode b_X_declare 17 = .ok (.invokevirtual 42, 3) := by decide +kernel
theorem d_X_declare_20 : decode b_X_declare 20 = .ok (.ifCond .eq 7, 3) := by decide +kernel
theorem d_X_declare_23 : decode b_X_declare 23 = .ok (.iload_n 2, 1) := by decide +kernel
theorem d_X_declare_24 : decode b_X_declare 24 = .ok (.ifCond .ne 5, 3) := by decide +kernel
theorem d_X_declare_27 : decode b_X_declare 27 = .ok (.iconst (-1), 1) := by decide +kernel
theorem d_X_declare_28 : decode b_X_declare 28 = .ok (.ireturn, 1) := by decide +kernel
theorem d_X_declare_29 : decode b_X_declare 29 = .ok (.aload 4, 2) := by decide +kernel
theorem d_X_declare_31 : decode b_X_declare 31 = .ok (.getfield 85, 3) := by decide +kernel
theorem d_X_declare_34 : decode b_X_declare 34 = .ok (.bipush 12, 2) := by decide +kernel
theorem d_X_declare_36 : decode b_X_declare 36 = .ok (.if_icmp .ge 11, 3) := by decide +kernel
theorem d_X_declare_39 : decode b_X_declare 39 = .ok (.aload 4, 2) := by decide +kernel
theorem d_X_declare_41 : decode b_X_declare 41 = .ok (.getfield 88, 3) := by decide +kernel
theorem d_X_declare_44 : decode b_X_declare 44 = .ok (.ifCond .eq 5, 3) := by decide +kernel
theorem d_X_declare_47 : decode b_X_declare 47 = .ok (.iconst (-1), 1) := by decide +kernel
theorem d_X_declare_48 : decode b_X_declare 48 = .ok (.ireturn, 1) := by decide +kernel
theorem d_X_declare_49 : decode b_X_declare 49 = .ok (.aload_n 0, 1) := by decide +kernel
theorem d_X_declare_50 : decode b_X_declare 50 = .ok (.aload 4, 2) := by decide +kernel
theorem d_X_declare_52 : decode b_X_declare 52 = .ok (.iload_n 2, 1) := by decide +kernel
theorem d_X_declare_53 : decode b_X_declare 53 = .ok (.invokevirtual 92, 3) := by decide +kernel
theorem d_X_declare_56 : decode b_X_declare 56 = .ok (.ifCond .eq 6, 3) := by decide +kernel
theorem d_X_declare_59 : decode b_X_declare 59 = .ok (.bipush (-2), 2) := by decide +kernel
theorem d_X_declare_61 : decode b_X_declare 61 = .ok (.ireturn, 1) := by decide +kernel
theorem d_X_declare_62 : decode b_X_declare 62 = .ok (.aload 4, 2) := by decide +kernel
theorem d_X_declare_64 : decode b_X_declare 64 = .ok (.iload_n 2, 1) := by decide +kernel
theorem d_X_declare_65 : decode b_X_declare 65 = .ok (.iload_n 3, 1) := by decide +kernel
theorem d_X_declare_66 : decode b_X_declare 66 = .ok (.invokevirtual 96, 3) := by decide +kernel
theorem d_X_declare_69 : decode b_X_declare 69 = .ok (.iconst 1, 1) := by decide +kernel
theorem d_X_declare_70 : decode b_X_declare 70 = .ok (.ireturn, 1) := by decide +kernel
theorem d_X_strict_0 : decode b_X_strict 0 = .ok (.aload_n 0, 1) := by decide +kernel
theorem d_X_strict_1 : decode b_X_strict 1 = .ok (.iload_n 1, 1) := by decide +kernel
theorem d_X_strict_2 : decode b_X_strict 2 = .ok (.putfield 100, 3) := by decide +kernel
theorem d_X_strict_5 : decode b_X_strict 5 = .ok (.return_, 1) := by decide +kernel
theorem d_X_begin_0 : decode b_X_begin 0 = .ok (.aload_n 0, 1) := by decide +kernel
theorem d_X_begin_1 : decode b_X_begin 1 = .ok (.iload_n 1, 1) := by decide +kernel
theorem d_X_begin_2 : decode b_X_begin 2 = .ok (.invokevirtual 81, 3) := by decide +kernel
theorem d_X_begin_5 : decode b_X_begin 5 = .ok (.astore_n 2, 1) := by decide +kernel
theorem d_X_begin_6 : decode b_X_begin 6 = .ok (.aload_n 2, 1) := by decide +kernel
theorem d_X_begin_7 : decode b_X_begin 7 = .ok (.ifnull 10, 3) := by decide +kernel
theorem d_X_begin_10 : decode b_X_begin 10 = .ok (.aload_n 2, 1) := by decide +kernel
theorem d_X_begin_11 : decode b_X_begin 11 = .ok (.getfield 88, 3) := by decide +kernel
theorem d_X_begin_14 : decode b_X_begin 14 = .ok (.ifCond .eq 5, 3) := by decide +kernel
theorem d_X_begin_17 : decode b_X_begin 17 = .ok (.iconst (-1), 1) := by decide +kernel
theorem d_X_begin_18 : decode b_X_begin 18 = .ok (.ireturn, 1) := by decide +kernel
theorem d_X_begin_19 : decode b_X_begin 19 = .ok (.aload_n 0, 1) := by decide +kernel
theorem d_X_begin_20 : decode b_X_begin 20 = .ok (.aload_n 2, 1) := by decide +kernel
theorem d_X_begin_21 : decode b_X_begin 21 = .ok (.invokevirtual 103, 3) := by decide +kernel
theorem d_X_begin_24 : decode b_X_begin 24 = .ok (.ifCond .eq 6, 3) := by decide +kernel
theorem d_X_begin_27 : decode b_X_begin 27 = .ok (.bipush (-2), 2) := by decide +kernel
theorem d_X_begin_29 : decode b_X_begin 29 = .ok (.ireturn, 1) := by decide +kernel
theorem d_X_begin_30 : decode b_X_begin 30 = .ok (.aload_n 2, 1) := by decide +kernel
theorem d_X_begin_31 : decode b_X_begin 31 = .ok (.invokevirtual 107, 3) := by decide +kernel
theorem d_X_begin_34 : decode b_X_begin 34 = .ok (.aload_n 2, 1) := by decide +kernel
theorem d_X_begin_35 : decode b_X_begin 35 = .ok (.getfield 110, 3) := by decide +kernel
theorem d_X_begin_38 : decode b_X_begin 38 = .ok (.aload_n 0, 1) := by decide +kernel
theorem d_X_begin_39 : decode b_X_begin 39 = .ok (.getfield 32, 3) := by decide +kernel
theorem d_X_begin_42 : decode b_X_begin 42 = .ok (.aload_n 0, 1) := by decide +kernel
theorem d_X_begin_43 : decode b_X_begin 43 = .ok (.aload_n 2, 1) := by decide +kernel
theorem d_X_begin_44 : decode b_X_begin 44 = .ok (.iconst 0, 1) := by decide +kernel
theorem d_X_begin_45 : decode b_X_begin 45 = .ok (.invokevirtual 113, 3) := by decide +kernel
theorem d_X_begin_48 : decode b_X_begin 48 = .ok (.invokevirtual 117, 3) := by decide +kernel
theorem d_X_begin_51 : decode b_X_begin 51 = .ok (.aload_n 2, 1) := by decide +kernel
theorem d_X_begin_52 : decode b_X_begin 52 = .ok (.getfield 110, 3) := by decide +kernel
theorem d_X_begin_55 : decode b_X_begin 55 = .ok (.invokevirtual 61, 3) := by decide +kernel
theorem d_X_begin_58 : decode b_X_begin 58 = .ok (.invokestatic 121, 3) := by decide +kernel
theorem d_X_begin_61 : decode b_X_begin 61 = .ok (.ireturn, 1) := by decide +kernel
theorem d_X_open_0 : decode b_X_open 0 = .ok (.aload_n 0, 1) := by decide +kernel
theorem d_X_open_1 : decode b_X_open 1 = .ok (.iload_n 1, 1) := by decide +kernel
theorem d_X_open_2 : decode b_X_open 2 = .ok (.invokevirtual 127, 3) := by decide +kernel
theorem d_X_open_5 : decode b_X_open 5 = .ok (.astore_n 3, 1) := by decide +kernel
theorem d_X_open_6 : decode b_X_open 6 = .ok (.aload_n 3, 1) := by decide +kernel
theorem d_X_open_7 : decode b_X_open 7 = .ok (.ifnull 14, 3) := by decide +kernel
theorem d_X_open_10 : decode b_X_open 10 = .ok (.aload_n 0, 1) := by decide +kernel
theorem d_X_open_11 : decode b_X_open 11 = .ok (.getfield 25, 3) := by decide +kernel
theorem d_X_open_14 : decode b_X_open 14 = .ok (.iload_n 2, 1) := by decide +kernel
theorem d_X_open_15 : decode b_X_open 15 = .ok (.invokevirtual 42, 3) := by decide +kernel
theorem d_X_open_18 : decode b_X_open 18 = .ok (.ifCond .ne 5, 3) := by decide +kernel
theorem d_X_open_21 : decode b_X_open 21 = .ok (.iconst (-1), 1) := by decide +kernel
theorem d_X_open_22 : decode b_X_open 22 = .ok (.ireturn, 1) := by decide +kernel
theorem d_X_open_23 : decode b_X_open 23 = .ok (.aload_n 3, 1) := by decide +kernel
theorem d_X_open_24 : decode b_X_open 24 = .ok (.aload_n 0, 1) := by decide +kernel
theorem d_X_open_25 : decode b_X_open 25 = .ok (.getfield 18, 3) := by decide +kernel
theorem d_X_open_28 : decode b_X_open 28 = .ok (.invokevirtual 130, 3) := by decide +kernel
theorem d_X_open_31 : decode b_X_open 31 = .ok (.ifCond .ne 6, 3) := by decide +kernel
theorem d_X_open_34 : decode b_X_open 34 = .ok (.bipush (-9), 2) := by decide +kernel
theorem d_X_open_36 : decode b_X_open 36 = .ok (.ireturn, 1) := by decide +kernel
theorem d_X_open_37 : decode b_X_open 37 = .ok (.aload_n 3, 1) := by decide +kernel
theorem d_X_open_38 : decode b_X_open 38 = .ok (.getfield 110, 3) := by decide +kernel
theorem d_X_open_41 : decode b_X_open 41 = .ok (.iload_n 2, 1) := by decide +kernel
theorem d_X_open_42 : decode b_X_open 42 = .ok (.invokevirtual 73, 3) := by decide +kernel
theorem d_X_open_45 : decode b_X_open 45 = .ok (.istore 4, 2) := by decide +kernel
theorem d_X_open_47 : decode b_X_open 47 = .ok (.iload 4, 2) := by decide +kernel
theorem d_X_open_49 : decode b_X_open 49 = .ok (.ifCond .ne 8, 3) := by decide +kernel
theorem d_X_open_52 : decode b_X_open 52 = .ok (.aload_n 3, 1) := by decide +kernel
theorem d_X_open_53 : decode b_X_open 53 = .ok (.iload_n 2, 1) := by decide +kernel
theorem d_X_open_54 : decode b_X_open 54 = .ok (.invokevirtual 133, 3) := by decide +kernel
theorem d_X_open_57 : decode b_X_open 57 = .ok (.iload 4, 2) := by decide +kernel
theorem d_X_open_59 : decode b_X_open 59 = .ok (.ireturn, 1) := by decide +kernel
theorem d_X_write_0 : decode b_X_write 0 = .ok (.aload_n 0, 1) := by decide +kernel
theorem d_X_write_1 : decode b_X_write 1 = .ok (.iload_n 1, 1) := by decide +kernel
theorem d_X_write_2 : decode b_X_write 2 = .ok (.invokevirtual 127, 3) := by decide +kernel
theorem d_X_write_5 : decode b_X_write 5 = .ok (.astore 4, 2) := by decide +kernel
theorem d_X_write_7 : decode b_X_write 7 = .ok (.aload 4, 2) := by decide +kernel
theorem d_X_write_9 : decode b_X_write 9 = .ok (.ifnull 14, 3) := by decide +kernel
theorem d_X_write_12 : decode b_X_write 12 = .ok (.aload_n 0, 1) := by decide +kernel
theorem d_X_write_13 : decode b_X_write 13 = .ok (.getfield 25, 3) := by decide +kernel
theorem d_X_write_16 : decode b_X_write 16 = .ok (.iload_n 2, 1) := by decide +kernel
theorem d_X_write_17 : decode b_X_write 17 = .ok (.invokevirtual 42, 3) := by decide +kernel
theorem d_X_write_20 : decode b_X_write 20 = .ok (.ifCond .ne 5, 3) := by decide +kernel
theorem d_X_write_23 : decode b_X_write 23 = .ok (.iconst (-1), 1) := by decide +kernel
theorem d_X_write_24 : decode b_X_write 24 = .ok (.ireturn, 1) := by decide +kernel
theorem d_X_write_25 : decode b_X_write 25 = .ok (.aload 4, 2) := by decide +kernel
theorem d_X_write_27 : decode b_X_write 27 = .ok (.aload_n 0, 1) := by decide +kernel
theorem d_X_write_28 : decode b_X_write 28 = .ok (.getfield 18, 3) := by decide +kernel
theorem d_X_write_31 : decode b_X_write 31 = .ok (.invokevirtual 130, 3) := by decide +kernel
theorem d_X_write_34 : decode b_X_write 34 = .ok (.ifCond .ne 6, 3) := by decide +kernel
theorem d_X_write_37 : decode b_X_write 37 = .ok (.bipush (-9), 2) := by decide +kernel
theorem d_X_write_39 : decode b_X_write 39 = .ok (.ireturn, 1) := by decide +kernel
theorem d_X_write_40 : decode b_X_write 40 = .ok (.iload_n 3, 1) := by decide +kernel
theorem d_X_write_41 : decode b_X_write 41 = .ok (.iconst 1, 1) := by decide +kernel
theorem d_X_write_42 : decode b_X_write 42 = .ok (.if_icmp .lt 13, 3) := by decide +kernel
theorem d_X_write_45 : decode b_X_write 45 = .ok (.aload_n 0, 1) := by decide +kernel
theorem d_X_write_46 : decode b_X_write 46 = .ok (.aload 4, 2) := by decide +kernel
theorem d_X_write_48 : decode b_X_write 48 = .ok (.iload_n 2, 1) := by decide +kernel
theorem d_X_write_49 : decode b_X_write 49 = .ok (.invokevirtual 136, 3) := by decide +kernel
theorem d_X_write_52 : decode b_X_write 52 = .ok (.ifCond .ne 10, 3) := by decide +kernel
theorem d_X_write_55 : decode b_X_write 55 = .ok (.aload_n 0, 1) := by decide +kernel
theorem d_X_write_56 : decode b_X_write 56 = .ok (.aload 4, 2) := by decide +kernel
theorem d_X_write_58 : decode b_X_write 58 = .ok (.invokevirtual 139, 3) := by decide +kernel
theorem d_X_write_61 : decode b_X_write 61 = .ok (.ireturn, 1) := by decide +kernel
theorem d_X_write_62 : decode b_X_write 62 = .ok (.aload 4, 2) := by decide +kernel
theorem d_X_write_64 : decode b_X_write 64 = .ok (.getfield 110, 3) := by decide +kernel
theorem d_X_write_67 : decode b_X_write 67 = .ok (.iload_n 2, 1) := by decide +kernel
theorem d_X_write_68 : decode b_X_write 68 = .ok (.iload_n 3, 1) := by decide +kernel
theorem d_X_write_69 : decode b_X_write 69 = .ok (.invokevirtual 69, 3) := by decide +kernel
theorem d_X_write_72 : decode b_X_write 72 = .ok (.iconst 1, 1) := by decide +kernel
theorem d_X_write_73 : decode b_X_write 73 = .ok (.ireturn, 1) := by decide +kernel
theorem d_X_link_0 : decode b_X_link 0 = .ok (.aload_n 0, 1) := by decide +kernel
theorem d_X_link_1 : decode b_X_link 1 = .ok (.iload_n 1, 1) := by decide +kernel
theorem d_X_link_2 : decode b_X_link 2 = .ok (.invokevirtual 127, 3) := by decide +kernel
theorem d_X_link_5 : decode b_X_link 5 = .ok (.astore 4, 2) := by decide +kernel
theorem d_X_link_7 : decode b_X_link 7 = .ok (.aload 4, 2) := by decide +kernel
theorem d_X_link_9 : decode b_X_link 9 = .ok (.ifnull 25, 3) := by decide +kernel
theorem d_X_link_12 : decode b_X_link 12 = .ok (.aload_n 0, 1) := by decide +kernel
theorem d_X_link_13 : decode b_X_link 13 = .ok (.getfield 25, 3) := by decide +kernel
theorem d_X_link_16 : decode b_X_link 16 = .ok (.iload_n 2, 1) := by decide +kernel
theorem d_X_link_17 : decode b_X_link 17 = .ok (.invokevirtual 42, 3) := by decide +kernel
theorem d_X_link_20 : decode b_X_link 20 = .ok (.ifCond .eq 14, 3) := by decide +kernel
theorem d_X_link_23 : decode b_X_link 23 = .ok (.aload_n 0, 1) := by decide +kernel
theorem d_X_link_24 : decode b_X_link 24 = .ok (.getfield 25, 3) := by decide +kernel
theorem d_X_link_27 : decode b_X_link 27 = .ok (.iload_n 3, 1) := by decide +kernel
theorem d_X_link_28 : decode b_X_link 28 = .ok (.invokevirtual 42, 3) := by decide +kernel
theorem d_X_link_31 : decode b_X_link 31 = .ok (.ifCond .ne 5, 3) := by decide +kernel
theorem d_X_link_34 : decode b_X_link 34 = .ok (.iconst (-1), 1) := by decide +kernel
theorem d_X_link_35 : decode b_X_link 35 = .ok (.ireturn, 1) := by decide +kernel
theorem d_X_link_36 : decode b_X_link 36 = .ok (.aload 4, 2) := by decide +kernel
theorem d_X_link_38 : decode b_X_link 38 = .ok (.aload_n 0, 1) := by decide +kernel
theorem d_X_link_39 : decode b_X_link 39 = .ok (.getfield 18, 3) := by decide +kernel
theorem d_X_link_42 : decode b_X_link 42 = .ok (.invokevirtual 130, 3) := by decide +kernel
theorem d_X_link_45 : decode b_X_link 45 = .ok (.ifCond .ne 6, 3) := by decide +kernel
theorem d_X_link_48 : decode b_X_link 48 = .ok (.bipush (-9), 2) := by decide +kernel
theorem d_X_link_50 : decode b_X_link 50 = .ok (.ireturn, 1) := by decide +kernel
theorem d_X_link_51 : decode b_X_link 51 = .ok (.aload_n 0, 1) := by decide +kernel
theorem d_X_link_52 : decode b_X_link 52 = .ok (.aload 4, 2) := by decide +kernel
theorem d_X_link_54 : decode b_X_link 54 = .ok (.invokevirtual 143, 3) := by decide +kernel
theorem d_X_link_57 : decode b_X_link 57 = .ok (.aload_n 0, 1) := by decide +kernel
theorem d_X_link_58 : decode b_X_link 58 = .ok (.aload 4, 2) := by decide +kernel
theorem d_X_link_60 : decode b_X_link 60 = .ok (.iconst 0, 1) := by decide +kernel
theorem d_X_link_61 : decode b_X_link 61 = .ok (.invokevirtual 113, 3) := by decide +kernel
theorem d_X_link_64 : decode b_X_link 64 = .ok (.lor, 1) := by decide +kernel
theorem d_X_link_65 : decode b_X_link 65 = .ok (.lstore 5, 2) := by decide +kernel
theorem d_X_link_67 : decode b_X_link 67 = .ok (.lload 5, 2) := by decide +kernel
theorem d_X_link_69 : decode b_X_link 69 = .ok (.iload_n 3, 1) := by decide +kernel
theorem d_X_link_70 : decode b_X_link 70 = .ok (.invokestatic 147, 3) := by decide +kernel
theorem d_X_link_73 : decode b_X_link 73 = .ok (.ifCond .eq 13, 3) := by decide +kernel
theorem d_X_link_76 : decode b_X_link 76 = .ok (.aload_n 0, 1) := by decide +kernel
theorem d_X_link_77 : decode b_X_link 77 = .ok (.aload 4, 2) := by decide +kernel
theorem d_X_link_79 : decode b_X_link 79 = .ok (.iload_n 2, 1) := by decide +kernel
theorem d_X_link_80 : decode b_X_link 80 = .ok (.invokevirtual 136, 3) := by decide +kernel
theorem d_X_link_83 : decode b_X_link 83 = .ok (.ifCond .ne 10, 3) := by decide +kernel
theorem d_X_link_86 : decode b_X_link 86 = .ok (.aload_n 0, 1) := by decide +kernel
theorem d_X_link_87 : decode b_X_link 87 = .ok (.aload 4, 2) := by decide +kernel
theorem d_X_link_89 : decode b_X_link 89 = .ok (.invokevirtual 139, 3) := by decide +kernel
theorem d_X_link_92 : decode b_X_link 92 = .ok (.ireturn, 1) := by decide +kernel
theorem d_X_link_93 : decode b_X_link 93 = .ok (.aload 4, 2) := by decide +kernel
theorem d_X_link_95 : decode b_X_link 95 = .ok (.getfield 110, 3) := by decide +kernel
theorem d_X_link_98 : decode b_X_link 98 = .ok (.iload_n 2, 1) := by decide +kernel
theorem d_X_link_99 : decode b_X_link 99 = .ok (.iload_n 3, 1) := by decide +kernel
theorem d_X_link_100 : decode b_X_link 100 = .ok (.invokevirtual 151, 3) := by decide +kernel
theorem d_X_link_103 : decode b_X_link 103 = .ok (.iconst 1, 1) := by decide +kernel
theorem d_X_link_104 : decode b_X_link 104 = .ok (.ireturn, 1) := by decide +kernel
theorem d_X_remove_0 : decode b_X_remove 0 = .ok (.aload_n 0, 1) := by decide +kernel
theorem d_X_remove_1 : decode b_X_remove 1 = .ok (.iload_n 1, 1) := by decide +kernel
theorem d_X_remove_2 : decode b_X_remove 2 = .ok (.invokevirtual 127, 3) := by decide +kernel
theorem d_X_remove_5 : decode b_X_remove 5 = .ok (.astore_n 3, 1) := by decide +kernel
theorem d_X_remove_6 : decode b_X_remove 6 = .ok (.aload_n 3, 1) := by decide +kernel
theorem d_X_remove_7 : decode b_X_remove 7 = .ok (.ifnull 14, 3) := by decide +kernel
theorem d_X_remove_10 : decode b_X_remove 10 = .ok (.aload_n 0, 1) := by decide +kernel
theorem d_X_remove_11 : decode b_X_remove 11 = .ok (.getfield 25, 3) := by decide +kernel
theorem d_X_remove_14 : decode b_X_remove 14 = .ok (.iload_n 2, 1) := by decide +kernel
theorem d_X_remove_15 : decode b_X_remove 15 = .ok (.invokevirtual 42, 3) := by decide +kernel
theorem d_X_remove_18 : decode b_X_remove 18 = .ok (.ifCond .ne 5, 3) := by decide +kernel
theorem d_X_remove_21 : decode b_X_remove 21 = .ok (.iconst (-1), 1) := by decide +kernel
theorem d_X_remove_22 : decode b_X_remove 22 = .ok (.ireturn, 1) := by decide +kernel
theorem d_X_remove_23 : decode b_X_remove 23 = .ok (.aload_n 3, 1) := by decide +kernel
theorem d_X_remove_24 : decode b_X_remove 24 = .ok (.aload_n 0, 1) := by decide +kernel
theorem d_X_remove_25 : decode b_X_remove 25 = .ok (.getfield 18, 3) := by decide +kernel
theorem d_X_remove_28 : decode b_X_remove 28 = .ok (.invokevirtual 130, 3) := by decide +kernel
theorem d_X_remove_31 : decode b_X_remove 31 = .ok (.ifCond .ne 6, 3) := by decide +kernel
theorem d_X_remove_34 : decode b_X_remove 34 = .ok (.bipush (-9), 2) := by decide +kernel
theorem d_X_remove_36 : decode b_X_remove 36 = .ok (.ireturn, 1) := by decide +kernel
theorem d_X_remove_37 : decode b_X_remove 37 = .ok (.aload_n 0, 1) := by decide +kernel
theorem d_X_remove_38 : decode b_X_remove 38 = .ok (.aload_n 3, 1) := by decide +kernel
theorem d_X_remove_39 : decode b_X_remove 39 = .ok (.invokevirtual 143, 3) := by decide +kernel
theorem d_X_remove_42 : decode b_X_remove 42 = .ok (.aload_n 3, 1) := by decide +kernel
theorem d_X_remove_43 : decode b_X_remove 43 = .ok (.getfield 110, 3) := by decide +kernel
theorem d_X_remove_46 : decode b_X_remove 46 = .ok (.invokevirtual 61, 3) := by decide +kernel
theorem d_X_remove_49 : decode b_X_remove 49 = .ok (.land, 1) := by decide +kernel
theorem d_X_remove_50 : decode b_X_remove 50 = .ok (.iload_n 2, 1) := by decide +kernel
theorem d_X_remove_51 : decode b_X_remove 51 = .ok (.invokestatic 147, 3) := by decide +kernel
theorem d_X_remove_54 : decode b_X_remove 54 = .ok (.ifCond .ne 9, 3) := by decide +kernel
theorem d_X_remove_57 : decode b_X_remove 57 = .ok (.aload_n 0, 1) := by decide +kernel
theorem d_X_remove_58 : decode b_X_remove 58 = .ok (.aload_n 3, 1) := by decide +kernel
theorem d_X_remove_59 : decode b_X_remove 59 = .ok (.invokevirtual 139, 3) := by decide +kernel
theorem d_X_remove_62 : decode b_X_remove 62 = .ok (.ireturn, 1) := by decide +kernel
theorem d_X_remove_63 : decode b_X_remove 63 = .ok (.aload_n 3, 1) := by decide +kernel
theorem d_X_remove_64 : decode b_X_remove 64 = .ok (.getfield 110, 3) := by decide +kernel
theorem d_X_remove_67 : decode b_X_remove 67 = .ok (.iload_n 2, 1) := by decide +kernel
theorem d_X_remove_68 : decode b_X_remove 68 = .ok (.invokevirtual 65, 3) := by decide +kernel
theorem d_X_remove_71 : decode b_X_remove 71 = .ok (.iconst 1, 1) := by decide +kernel
theorem d_X_remove_72 : decode b_X_remove 72 = .ok (.ireturn, 1) := by decide +kernel
theorem d_X_list_0 : decode b_X_list 0 = .ok (.aload_n 0, 1) := by decide +kernel
theorem d_X_list_1 : decode b_X_list 1 = .ok (.iload_n 1, 1) := by decide +kernel
theorem d_X_list_2 : decode b_X_list 2 = .ok (.invokevirtual 127, 3) := by decide +kernel
theorem d_X_list_5 : decode b_X_list 5 = .ok (.astore 4, 2) := by decide +kernel
theorem d_X_list_7 : decode b_X_list 7 = .ok (.aload 4, 2) := by decide +kernel
theorem d_X_list_9 : decode b_X_list 9 = .ok (.ifnull 14, 3) := by decide +kernel
theorem d_X_list_12 : decode b_X_list 12 = .ok (.aload_n 0, 1) := by decide +kernel
theorem d_X_list_13 : decode b_X_list 13 = .ok (.getfield 25, 3) := by decide +kernel
theorem d_X_list_16 : decode b_X_list 16 = .ok (.iload_n 2, 1) := by decide +kernel
theorem d_X_list_17 : decode b_X_list 17 = .ok (.invokevirtual 42, 3) := by decide +kernel
theorem d_X_list_20 : decode b_X_list 20 = .ok (.ifCond .ne 5, 3) := by decide +kernel
theorem d_X_list_23 : decode b_X_list 23 = .ok (.iconst (-1), 1) := by decide +kernel
theorem d_X_list_24 : decode b_X_list 24 = .ok (.ireturn, 1) := by decide +kernel
theorem d_X_list_25 : decode b_X_list 25 = .ok (.aload 4, 2) := by decide +kernel
theorem d_X_list_27 : decode b_X_list 27 = .ok (.aload_n 0, 1) := by decide +kernel
theorem d_X_list_28 : decode b_X_list 28 = .ok (.getfield 18, 3) := by decide +kernel
theorem d_X_list_31 : decode b_X_list 31 = .ok (.invokevirtual 130, 3) := by decide +kernel
theorem d_X_list_34 : decode b_X_list 34 = .ok (.ifCond .ne 6, 3) := by decide +kernel
theorem d_X_list_37 : decode b_X_list 37 = .ok (.bipush (-9), 2) := by decide +kernel
theorem d_X_list_39 : decode b_X_list 39 = .ok (.ireturn, 1) := by decide +kernel
theorem d_X_list_40 : decode b_X_list 40 = .ok (.aload_n 0, 1) := by decide +kernel
theorem d_X_list_41 : decode b_X_list 41 = .ok (.getfield 25, 3) := by decide +kernel
theorem d_X_list_44 : decode b_X_list 44 = .ok (.iload_n 2, 1) := by decide +kernel
theorem d_X_list_45 : decode b_X_list 45 = .ok (.aload 4, 2) := by decide +kernel
theorem d_X_list_47 : decode b_X_list 47 = .ok (.getfield 110, 3) := by decide +kernel
theorem d_X_list_50 : decode b_X_list 50 = .ok (.invokevirtual 61, 3) := by decide +kernel
theorem d_X_list_53 : decode b_X_list 53 = .ok (.iload_n 3, 1) := by decide +kernel
theorem d_X_list_54 : decode b_X_list 54 = .ok (.invokevirtual 154, 3) := by decide +kernel
theorem d_X_list_57 : decode b_X_list 57 = .ok (.ireturn, 1) := by decide +kernel
theorem d_X_finish_0 : decode b_X_finish 0 = .ok (.aload_n 0, 1) := by decide +kernel
theorem d_X_finish_1 : decode b_X_finish 1 = .ok (.iload_n 1, 1) := by decide +kernel
theorem d_X_finish_2 : decode b_X_finish 2 = .ok (.invokevirtual 127, 3) := by decide +kernel
theorem d_X_finish_5 : decode b_X_finish 5 = .ok (.astore_n 3, 1) := by decide +kernel
theorem d_X_finish_6 : decode b_X_finish 6 = .ok (.aload_n 3, 1) := by decide +kernel
theorem d_X_finish_7 : decode b_X_finish 7 = .ok (.ifnonnull 5, 3) := by decide +kernel
theorem d_X_finish_10 : decode b_X_finish 10 = .ok (.iconst (-1), 1) := by decide +kernel
theorem d_X_finish_11 : decode b_X_finish 11 = .ok (.ireturn, 1) := by decide +kernel
theorem d_X_finish_12 : decode b_X_finish 12 = .ok (.aload_n 3, 1) := by decide +kernel
theorem d_X_finish_13 : decode b_X_finish 13 = .ok (.iconst 0, 1) := by decide +kernel
theorem d_X_finish_14 : decode b_X_finish 14 = .ok (.putfield 88, 3) := by decide +kernel
theorem d_X_finish_17 : decode b_X_finish 17 = .ok (.iload_n 2, 1) := by decide +kernel
theorem d_X_finish_18 : decode b_X_finish 18 = .ok (.ifCond .eq 5, 3) := by decide +kernel
theorem d_X_finish_21 : decode b_X_finish 21 = .ok (.iconst 0, 1) := by decide +kernel
theorem d_X_finish_22 : decode b_X_finish 22 = .ok (.ireturn, 1) := by decide +kernel
theorem d_X_finish_23 : decode b_X_finish 23 = .ok (.aload_n 3, 1) := by decide +kernel
theorem d_X_finish_24 : decode b_X_finish 24 = .ok (.getfield 158, 3) := by decide +kernel
theorem d_X_finish_27 : decode b_X_finish 27 = .ok (.ifCond .eq 6, 3) := by decide +kernel
theorem d_X_finish_30 : decode b_X_finish 30 = .ok (.bipush (-2), 2) := by decide +kernel
theorem d_X_finish_32 : decode b_X_finish 32 = .ok (.ireturn, 1) := by decide +kernel
theorem d_X_finish_33 : decode b_X_finish 33 = .ok (.aload_n 0, 1) := by decide +kernel
theorem d_X_finish_34 : decode b_X_finish 34 = .ok (.aload_n 3, 1) := by decide +kernel
theorem d_X_finish_35 : decode b_X_finish 35 = .ok (.invokevirtual 161, 3) := by decide +kernel
theorem d_X_finish_38 : decode b_X_finish 38 = .ok (.istore 4, 2) := by decide +kernel
theorem d_X_finish_40 : decode b_X_finish 40 = .ok (.iload 4, 2) := by decide +kernel
theorem d_X_finish_42 : decode b_X_finish 42 = .ok (.ifCond .eq 8, 3) := by decide +kernel
theorem d_X_finish_45 : decode b_X_finish 45 = .ok (.iload 4, 2) := by decide +kernel
theorem d_X_finish_47 : decode b_X_finish 47 = .ok (.goto 8, 3) := by decide +kernel
theorem d_X_finish_50 : decode b_X_finish 50 = .ok (.aload_n 0, 1) := by decide +kernel
theorem d_X_finish_51 : decode b_X_finish 51 = .ok (.aload_n 3, 1) := by decide +kernel
theorem d_X_finish_52 : decode b_X_finish 52 = .ok (.invokevirtual 164, 3) := by decide +kernel
theorem d_X_finish_55 : decode b_X_finish 55 = .ok (.ireturn, 1) := by decide +kernel
theorem d_X_tried_0 : decode b_X_tried 0 = .ok (.aload_n 0, 1) := by decide +kernel
theorem d_X_tried_1 : decode b_X_tried 1 = .ok (.iload_n 1, 1) := by decide +kernel
theorem d_X_tried_2 : decode b_X_tried 2 = .ok (.invokevirtual 81, 3) := by decide +kernel
theorem d_X_tried_5 : decode b_X_tried 5 = .ok (.astore_n 3, 1) := by decide +kernel
theorem d_X_tried_6 : decode b_X_tried 6 = .ok (.aload_n 3, 1) := by decide +kernel
theorem d_X_tried_7 : decode b_X_tried 7 = .ok (.ifnull 15, 3) := by decide +kernel
theorem d_X_tried_10 : decode b_X_tried 10 = .ok (.iload_n 2, 1) := by decide +kernel
theorem d_X_tried_11 : decode b_X_tried 11 = .ok (.ifCond .lt 11, 3) := by decide +kernel
theorem d_X_tried_14 : decode b_X_tried 14 = .ok (.iload_n 2, 1) := by decide +kernel
theorem d_X_tried_15 : decode b_X_tried 15 = .ok (.aload_n 3, 1) := by decide +kernel
theorem d_X_tried_16 : decode b_X_tried 16 = .ok (.getfield 167, 3) := by decide +kernel
theorem d_X_tried_19 : decode b_X_tried 19 = .ok (.if_icmp .lt 5, 3) := by decide +kernel
theorem d_X_tried_22 : decode b_X_tried 22 = .ok (.iconst (-1), 1) := by decide +kernel
theorem d_X_tried_23 : decode b_X_tried 23 = .ok (.ireturn, 1) := by decide +kernel
theorem d_X_tried_24 : decode b_X_tried 24 = .ok (.aload_n 3, 1) := by decide +kernel
theorem d_X_tried_25 : decode b_X_tried 25 = .ok (.getfield 170, 3) := by decide +kernel
theorem d_X_tried_28 : decode b_X_tried 28 = .ok (.iload_n 2, 1) := by decide +kernel
theorem d_X_tried_29 : decode b_X_tried 29 = .ok (.iaload, 1) := by decide +kernel
theorem d_X_tried_30 : decode b_X_tried 30 = .ok (.ireturn, 1) := by decide +kernel
theorem d_X_about_0 : decode b_X_about 0 = .ok (.aload_n 0, 1) := by decide +kernel
theorem d_X_about_1 : decode b_X_about 1 = .ok (.iload_n 1, 1) := by decide +kernel
theorem d_X_about_2 : decode b_X_about 2 = .ok (.invokevirtual 81, 3) := by decide +kernel
theorem d_X_about_5 : decode b_X_about 5 = .ok (.astore_n 3, 1) := by decide +kernel
theorem d_X_about_6 : decode b_X_about 6 = .ok (.aload_n 3, 1) := by decide +kernel
theorem d_X_about_7 : decode b_X_about 7 = .ok (.ifnonnull 5, 3) := by decide +kernel
theorem d_X_about_10 : decode b_X_about 10 = .ok (.iconst (-1), 1) := by decide +kernel
theorem d_X_about_11 : decode b_X_about 11 = .ok (.ireturn, 1) := by decide +kernel
theorem d_X_about_12 : decode b_X_about 12 = .ok (.iload_n 2, 1) := by decide +kernel
theorem d_X_about_13 : decode b_X_about 13 = .ok (.ifCond .ne 16, 3) := by decide +kernel
theorem d_X_about_16 : decode b_X_about 16 = .ok (.aload_n 3, 1) := by decide +kernel
theorem d_X_about_17 : decode b_X_about 17 = .ok (.getfield 88, 3) := by decide +kernel
theorem d_X_about_20 : decode b_X_about 20 = .ok (.ifCond .eq 7, 3) := by decide +kernel
theorem d_X_about_23 : decode b_X_about 23 = .ok (.iconst 1, 1) := by decide +kernel
theorem d_X_about_24 : decode b_X_about 24 = .ok (.goto 4, 3) := by decide +kernel
theorem d_X_about_27 : decode b_X_about 27 = .ok (.iconst 0, 1) := by decide +kernel
theorem d_X_about_28 : decode b_X_about 28 = .ok (.ireturn, 1) := by decide +kernel
theorem d_X_about_29 : decode b_X_about 29 = .ok (.aload_n 3, 1) := by decide +kernel
theorem d_X_about_30 : decode b_X_about 30 = .ok (.getfield 174, 3) := by decide +kernel
theorem d_X_about_33 : decode b_X_about 33 = .ok (.ifCond .ne 5, 3) := by decide +kernel
theorem d_X_about_36 : decode b_X_about 36 = .ok (.iconst (-1), 1) := by decide +kernel
theorem d_X_about_37 : decode b_X_about 37 = .ok (.ireturn, 1) := by decide +kernel
theorem d_X_about_38 : decode b_X_about 38 = .ok (.iload_n 2, 1) := by decide +kernel
theorem d_X_about_39 : decode b_X_about 39 = .ok (.tableswitch 48 1 3 #[25, 30, 35], 25) := by decide +kernel
theorem d_X_about_64 : decode b_X_about 64 = .ok (.aload_n 3, 1) := by decide +kernel
theorem d_X_about_65 : decode b_X_about 65 = .ok (.getfield 177, 3) := by decide +kernel
theorem d_X_about_68 : decode b_X_about 68 = .ok (.ireturn, 1) := by decide +kernel
theorem d_X_about_69 : decode b_X_about 69 = .ok (.aload_n 3, 1) := by decide +kernel
theorem d_X_about_70 : decode b_X_about 70 = .ok (.getfield 180, 3) := by decide +kernel
theorem d_X_about_73 : decode b_X_about 73 = .ok (.ireturn, 1) := by decide +kernel
theorem d_X_about_74 : decode b_X_about 74 = .ok (.aload_n 3, 1) := by decide +kernel
theorem d_X_about_75 : decode b_X_about 75 = .ok (.getfield 158, 3) := by decide +kernel
theorem d_X_about_78 : decode b_X_about 78 = .ok (.ifCond .eq 7, 3) := by decide +kernel
theorem d_X_about_81 : decode b_X_about 81 = .ok (.iconst 1, 1) := by decide +kernel
theorem d_X_about_82 : decode b_X_about 82 = .ok (.goto 4, 3) := by decide +kernel
theorem d_X_about_85 : decode b_X_about 85 = .ok (.iconst 0, 1) := by decide +kernel
theorem d_X_about_86 : decode b_X_about 86 = .ok (.ireturn, 1) := by decide +kernel
theorem d_X_about_87 : decode b_X_about 87 = .ok (.iconst (-1), 1) := by decide +kernel
theorem d_X_about_88 : decode b_X_about 88 = .ok (.ireturn, 1) := by decide +kernel
end
section
theorem d_X_actionAt_0 : decode b_X_actionAt 0 = .ok (.iload_n 1, 1) := by decide +kernel
theorem d_X_actionAt_1 : decode b_X_actionAt 1 = .ok (.ifCond .lt 20, 3) := by decide +kernel
theorem d_X_actionAt_4 : decode b_X_actionAt 4 = .ok (.iload_n 1, 1) := by decide +kernel
theorem d_X_actionAt_5 : decode b_X_actionAt 5 = .ok (.aload_n 0, 1) := by decide +kernel
theorem d_X_actionAt_6 : decode b_X_actionAt 6 = .ok (.getfield 77, 3) := by decide +kernel
theorem d_X_actionAt_9 : decode b_X_actionAt 9 = .ok (.if_icmp .ge 12, 3) := by decide +kernel
theorem d_X_actionAt_12 : decode b_X_actionAt 12 = .ok (.aload_n 0, 1) := by decide +kernel
theorem d_X_actionAt_13 : decode b_X_actionAt 13 = .ok (.getfield 38, 3) := by decide +kernel
theorem d_X_actionAt_16 : decode b_X_actionAt 16 = .ok (.iload_n 1, 1) := by decide +kernel
theorem d_X_actionAt_17 : decode b_X_actionAt 17 = .ok (.aaload, 1) := by decide +kernel
theorem d_X_actionAt_18 : decode b_X_actionAt 18 = .ok (.goto 4, 3) := by decide +kernel
theorem d_X_actionAt_21 : decode b_X_actionAt 21 = .ok (.aconst_null, 1) := by decide +kernel
theorem d_X_actionAt_22 : decode b_X_actionAt 22 = .ok (.areturn, 1) := by decide +kernel
theorem d_X_runningAt_0 : decode b_X_runningAt 0 = .ok (.aload_n 0, 1) := by decide +kernel
theorem d_X_runningAt_1 : decode b_X_runningAt 1 = .ok (.iload_n 1, 1) := by decide +kernel
theorem d_X_runningAt_2 : decode b_X_runningAt 2 = .ok (.invokevirtual 81, 3) := by decide +kernel
theorem d_X_runningAt_5 : decode b_X_runningAt 5 = .ok (.astore_n 2, 1) := by decide +kernel
theorem d_X_runningAt_6 : decode b_X_runningAt 6 = .ok (.aload_n 2, 1) := by decide +kernel
theorem d_X_runningAt_7 : decode b_X_runningAt 7 = .ok (.ifnull 14, 3) := by decide +kernel
theorem d_X_runningAt_10 : decode b_X_runningAt 10 = .ok (.aload_n 2, 1) := by decide +kernel
theorem d_X_runningAt_11 : decode b_X_runningAt 11 = .ok (.getfield 88, 3) := by decide +kernel
theorem d_X_runningAt_14 : decode b_X_runningAt 14 = .ok (.ifCond .eq 7, 3) := by decide +kernel
theorem d_X_runningAt_17 : decode b_X_runningAt 17 = .ok (.aload_n 2, 1) := by decide +kernel
theorem d_X_runningAt_18 : decode b_X_runningAt 18 = .ok (.goto 4, 3) := by decide +kernel
theorem d_X_runningAt_21 : decode b_X_runningAt 21 = .ok (.aconst_null, 1) := by decide +kernel
theorem d_X_runningAt_22 : decode b_X_runningAt 22 = .ok (.areturn, 1) := by decide +kernel
theorem d_X_touchesDeclared_0 : decode b_X_touchesDeclared 0 = .ok (.aload_n 0, 1) := by decide +kernel
theorem d_X_touchesDeclared_1 : decode b_X_touchesDeclared 1 = .ok (.getfield 25, 3) := by decide +kernel
theorem d_X_touchesDeclared_4 : decode b_X_touchesDeclared 4 = .ok (.iload_n 2, 1) := by decide +kernel
theorem d_X_touchesDeclared_5 : decode b_X_touchesDeclared 5 = .ok (.invokevirtual 57, 3) := by decide +kernel
theorem d_X_touchesDeclared_8 : decode b_X_touchesDeclared 8 = .ok (.iload_n 2, 1) := by decide +kernel
theorem d_X_touchesDeclared_9 : decode b_X_touchesDeclared 9 = .ok (.invokestatic 183, 3) := by decide +kernel
theorem d_X_touchesDeclared_12 : decode b_X_touchesDeclared 12 = .ok (.lor, 1) := by decide +kernel
theorem d_X_touchesDeclared_13 : decode b_X_touchesDeclared 13 = .ok (.lstore_n 3, 1) := by decide +kernel
theorem d_X_touchesDeclared_14 : decode b_X_touchesDeclared 14 = .ok (.iconst 0, 1) := by decide +kernel
theorem d_X_touchesDeclared_15 : decode b_X_touchesDeclared 15 = .ok (.istore 5, 2) := by decide +kernel
theorem d_X_touchesDeclared_17 : decode b_X_touchesDeclared 17 = .ok (.iload 5, 2) := by decide +kernel
theorem d_X_touchesDeclared_19 : decode b_X_touchesDeclared 19 = .ok (.aload_n 1, 1) := by decide +kernel
theorem d_X_touchesDeclared_20 : decode b_X_touchesDeclared 20 = .ok (.getfield 85, 3) := by decide +kernel
theorem d_X_touchesDeclared_23 : decode b_X_touchesDeclared 23 = .ok (.if_icmp .ge 25, 3) := by decide +kernel
theorem d_X_touchesDeclared_26 : decode b_X_touchesDeclared 26 = .ok (.lload_n 3, 1) := by decide +kernel
theorem d_X_touchesDeclared_27 : decode b_X_touchesDeclared 27 = .ok (.aload_n 1, 1) := by decide +kernel
theorem d_X_touchesDeclared_28 : decode b_X_touchesDeclared 28 = .ok (.getfield 186, 3) := by decide +kernel
theorem d_X_touchesDeclared_31 : decode b_X_touchesDeclared 31 = .ok (.iload 5, 2) := by decide +kernel
theorem d_X_touchesDeclared_33 : decode b_X_touchesDeclared 33 = .ok (.iaload, 1) := by decide +kernel
theorem d_X_touchesDeclared_34 : decode b_X_touchesDeclared 34 = .ok (.invokestatic 147, 3) := by decide +kernel
theorem d_X_touchesDeclared_37 : decode b_X_touchesDeclared 37 = .ok (.ifCond .eq 5, 3) := by decide +kernel
theorem d_X_touchesDeclared_40 : decode b_X_touchesDeclared 40 = .ok (.iconst 1, 1) := by decide +kernel
theorem d_X_touchesDeclared_41 : decode b_X_touchesDeclared 41 = .ok (.ireturn, 1) := by decide +kernel
theorem d_X_touchesDeclared_42 : decode b_X_touchesDeclared 42 = .ok (.iinc 5 1, 3) := by decide +kernel
theorem d_X_touchesDeclared_45 : decode b_X_touchesDeclared 45 = .ok (.goto (-28), 3) := by decide +kernel
theorem d_X_touchesDeclared_48 : decode b_X_touchesDeclared 48 = .ok (.iconst 0, 1) := by decide +kernel
theorem d_X_touchesDeclared_49 : decode b_X_touchesDeclared 49 = .ok (.ireturn, 1) := by decide +kernel
theorem d_X_lacksInput_0 : decode b_X_lacksInput 0 = .ok (.iconst 0, 1) := by decide +kernel
theorem d_X_lacksInput_1 : decode b_X_lacksInput 1 = .ok (.istore_n 2, 1) := by decide +kernel
theorem d_X_lacksInput_2 : decode b_X_lacksInput 2 = .ok (.iload_n 2, 1) := by decide +kernel
theorem d_X_lacksInput_3 : decode b_X_lacksInput 3 = .ok (.aload_n 1, 1) := by decide +kernel
theorem d_X_lacksInput_4 : decode b_X_lacksInput 4 = .ok (.getfield 85, 3) := by decide +kernel
theorem d_X_lacksInput_7 : decode b_X_lacksInput 7 = .ok (.if_icmp .ge 48, 3) := by decide +kernel
theorem d_X_lacksInput_10 : decode b_X_lacksInput 10 = .ok (.aload_n 1, 1) := by decide +kernel
theorem d_X_lacksInput_11 : decode b_X_lacksInput 11 = .ok (.getfield 189, 3) := by decide +kernel
theorem d_X_lacksInput_14 : decode b_X_lacksInput 14 = .ok (.iload_n 2, 1) := by decide +kernel
theorem d_X_lacksInput_15 : decode b_X_lacksInput 15 = .ok (.baload, 1) := by decide +kernel
theorem d_X_lacksInput_16 : decode b_X_lacksInput 16 = .ok (.ifCond .ne 33, 3) := by decide +kernel
theorem d_X_lacksInput_19 : decode b_X_lacksInput 19 = .ok (.aload_n 0, 1) := by decide +kernel
theorem d_X_lacksInput_20 : decode b_X_lacksInput 20 = .ok (.getfield 25, 3) := by decide +kernel
theorem d_X_lacksInput_23 : decode b_X_lacksInput 23 = .ok (.aload_n 1, 1) := by decide +kernel
theorem d_X_lacksInput_24 : decode b_X_lacksInput 24 = .ok (.getfield 186, 3) := by decide +kernel
theorem d_X_lacksInput_27 : decode b_X_lacksInput 27 = .ok (.iload_n 2, 1) := by decide +kernel
theorem d_X_lacksInput_28 : decode b_X_lacksInput 28 = .ok (.iaload, 1) := by decide +kernel
theorem d_X_lacksInput_29 : decode b_X_lacksInput 29 = .ok (.invokevirtual 193, 3) := by decide +kernel
theorem d_X_lacksInput_32 : decode b_X_lacksInput 32 = .ok (.lstore_n 3, 1) := by decide +kernel
theorem d_X_lacksInput_33 : decode b_X_lacksInput 33 = .ok (.lload_n 3, 1) := by decide +kernel
theorem d_X_lacksInput_34 : decode b_X_lacksInput 34 = .ok (.aload_n 0, 1) := by decide +kernel
theorem d_X_lacksInput_35 : decode b_X_lacksInput 35 = .ok (.getfield 32, 3) := by decide +kernel
theorem d_X_lacksInput_38 : decode b_X_lacksInput 38 = .ok (.invokevirtual 61, 3) := by decide +kernel
theorem d_X_lacksInput_41 : decode b_X_lacksInput 41 = .ok (.land, 1) := by decide +kernel
theorem d_X_lacksInput_42 : decode b_X_lacksInput 42 = .ok (.lconst 0, 1) := by decide +kernel
theorem d_X_lacksInput_43 : decode b_X_lacksInput 43 = .ok (.lcmp, 1) := by decide +kernel
theorem d_X_lacksInput_44 : decode b_X_lacksInput 44 = .ok (.ifCond .ne 5, 3) := by decide +kernel
theorem d_X_lacksInput_47 : decode b_X_lacksInput 47 = .ok (.iconst 1, 1) := by decide +kernel
theorem d_X_lacksInput_48 : decode b_X_lacksInput 48 = .ok (.ireturn, 1) := by decide +kernel
theorem d_X_lacksInput_49 : decode b_X_lacksInput 49 = .ok (.iinc 2 1, 3) := by decide +kernel
theorem d_X_lacksInput_52 : decode b_X_lacksInput 52 = .ok (.goto (-50), 3) := by decide +kernel
theorem d_X_lacksInput_55 : decode b_X_lacksInput 55 = .ok (.iconst 0, 1) := by decide +kernel
theorem d_X_lacksInput_56 : decode b_X_lacksInput 56 = .ok (.ireturn, 1) := by decide +kernel
theorem d_X_underDeclared_0 : decode b_X_underDeclared 0 = .ok (.lconst 0, 1) := by decide +kernel
theorem d_X_underDeclared_1 : decode b_X_underDeclared 1 = .ok (.lstore_n 3, 1) := by decide +kernel
theorem d_X_underDeclared_2 : decode b_X_underDeclared 2 = .ok (.iconst 0, 1) := by decide +kernel
theorem d_X_underDeclared_3 : decode b_X_underDeclared 3 = .ok (.istore 5, 2) := by decide +kernel
theorem d_X_underDeclared_5 : decode b_X_underDeclared 5 = .ok (.iload 5, 2) := by decide +kernel
theorem d_X_underDeclared_7 : decode b_X_underDeclared 7 = .ok (.aload_n 1, 1) := by decide +kernel
theorem d_X_underDeclared_8 : decode b_X_underDeclared 8 = .ok (.getfield 85, 3) := by decide +kernel
theorem d_X_underDeclared_11 : decode b_X_underDeclared 11 = .ok (.if_icmp .ge 37, 3) := by decide +kernel
theorem d_X_underDeclared_14 : decode b_X_underDeclared 14 = .ok (.aload_n 1, 1) := by decide +kernel
theorem d_X_underDeclared_15 : decode b_X_underDeclared 15 = .ok (.getfield 189, 3) := by decide +kernel
theorem d_X_underDeclared_18 : decode b_X_underDeclared 18 = .ok (.iload 5, 2) := by decide +kernel
theorem d_X_underDeclared_20 : decode b_X_underDeclared 20 = .ok (.baload, 1) := by decide +kernel
theorem d_X_underDeclared_21 : decode b_X_underDeclared 21 = .ok (.iload_n 2, 1) := by decide +kernel
theorem d_X_underDeclared_22 : decode b_X_underDeclared 22 = .ok (.if_icmp .ne 20, 3) := by decide +kernel
theorem d_X_underDeclared_25 : decode b_X_underDeclared 25 = .ok (.lload_n 3, 1) := by decide +kernel
theorem d_X_underDeclared_26 : decode b_X_underDeclared 26 = .ok (.aload_n 0, 1) := by decide +kernel
theorem d_X_underDeclared_27 : decode b_X_underDeclared 27 = .ok (.getfield 25, 3) := by decide +kernel
theorem d_X_underDeclared_30 : decode b_X_underDeclared 30 = .ok (.aload_n 1, 1) := by decide +kernel
theorem d_X_underDeclared_31 : decode b_X_underDeclared 31 = .ok (.getfield 186, 3) := by decide +kernel
theorem d_X_underDeclared_34 : decode b_X_underDeclared 34 = .ok (.iload 5, 2) := by decide +kernel
theorem d_X_underDeclared_36 : decode b_X_underDeclared 36 = .ok (.iaload, 1) := by decide +kernel
theorem d_X_underDeclared_37 : decode b_X_underDeclared 37 = .ok (.invokevirtual 193, 3) := by decide +kernel
theorem d_X_underDeclared_40 : decode b_X_underDeclared 40 = .ok (.lor, 1) := by decide +kernel
theorem d_X_underDeclared_41 : decode b_X_underDeclared 41 = .ok (.lstore_n 3, 1) := by decide +kernel
theorem d_X_underDeclared_42 : decode b_X_underDeclared 42 = .ok (.iinc 5 1, 3) := by decide +kernel
theorem d_X_underDeclared_45 : decode b_X_underDeclared 45 = .ok (.goto (-40), 3) := by decide +kernel
theorem d_X_underDeclared_48 : decode b_X_underDeclared 48 = .ok (.lload_n 3, 1) := by decide +kernel
theorem d_X_underDeclared_49 : decode b_X_underDeclared 49 = .ok (.lreturn, 1) := by decide +kernel
theorem d_X_writable_0 : decode b_X_writable 0 = .ok (.aload_n 0, 1) := by decide +kernel
theorem d_X_writable_1 : decode b_X_writable 1 = .ok (.aload_n 1, 1) := by decide +kernel
theorem d_X_writable_2 : decode b_X_writable 2 = .ok (.iconst 1, 1) := by decide +kernel
theorem d_X_writable_3 : decode b_X_writable 3 = .ok (.invokevirtual 113, 3) := by decide +kernel
theorem d_X_writable_6 : decode b_X_writable 6 = .ok (.aload_n 0, 1) := by decide +kernel
theorem d_X_writable_7 : decode b_X_writable 7 = .ok (.aload_n 1, 1) := by decide +kernel
theorem d_X_writable_8 : decode b_X_writable 8 = .ok (.invokevirtual 196, 3) := by decide +kernel
theorem d_X_writable_11 : decode b_X_writable 11 = .ok (.lor, 1) := by decide +kernel
theorem d_X_writable_12 : decode b_X_writable 12 = .ok (.lreturn, 1) := by decide +kernel
theorem d_X_scratch_0 : decode b_X_scratch 0 = .ok (.aload_n 0, 1) := by decide +kernel
theorem d_X_scratch_1 : decode b_X_scratch 1 = .ok (.getfield 25, 3) := by decide +kernel
theorem d_X_scratch_4 : decode b_X_scratch 4 = .ok (.iconst 0, 1) := by decide +kernel
theorem d_X_scratch_5 : decode b_X_scratch 5 = .ok (.bipush 122, 2) := by decide +kernel
theorem d_X_scratch_7 : decode b_X_scratch 7 = .ok (.invokevirtual 50, 3) := by decide +kernel
theorem d_X_scratch_10 : decode b_X_scratch 10 = .ok (.istore_n 2, 1) := by decide +kernel
theorem d_X_scratch_11 : decode b_X_scratch 11 = .ok (.iload_n 2, 1) := by decide +kernel
theorem d_X_scratch_12 : decode b_X_scratch 12 = .ok (.iconst (-1), 1) := by decide +kernel
theorem d_X_scratch_13 : decode b_X_scratch 13 = .ok (.if_icmp .ne 5, 3) := by decide +kernel
theorem d_X_scratch_16 : decode b_X_scratch 16 = .ok (.lconst 0, 1) := by decide +kernel
theorem d_X_scratch_17 : decode b_X_scratch 17 = .ok (.lreturn, 1) := by decide +kernel
theorem d_X_scratch_18 : decode b_X_scratch 18 = .ok (.aload_n 0, 1) := by decide +kernel
theorem d_X_scratch_19 : decode b_X_scratch 19 = .ok (.getfield 25, 3) := by decide +kernel
theorem d_X_scratch_22 : decode b_X_scratch 22 = .ok (.iload_n 2, 1) := by decide +kernel
theorem d_X_scratch_23 : decode b_X_scratch 23 = .ok (.invokevirtual 193, 3) := by decide +kernel
theorem d_X_scratch_26 : decode b_X_scratch 26 = .ok (.iload_n 2, 1) := by decide +kernel
theorem d_X_scratch_27 : decode b_X_scratch 27 = .ok (.invokestatic 183, 3) := by decide +kernel
theorem d_X_scratch_30 : decode b_X_scratch 30 = .ok (.ldc2_w 199, 3) := by decide +kernel
theorem d_X_scratch_33 : decode b_X_scratch 33 = .ok (.lxor, 1) := by decide +kernel
theorem d_X_scratch_34 : decode b_X_scratch 34 = .ok (.land, 1) := by decide +kernel
theorem d_X_scratch_35 : decode b_X_scratch 35 = .ok (.aload_n 0, 1) := by decide +kernel
theorem d_X_scratch_36 : decode b_X_scratch 36 = .ok (.aload_n 1, 1) := by decide +kernel
theorem d_X_scratch_37 : decode b_X_scratch 37 = .ok (.iconst 0, 1) := by decide +kernel
theorem d_X_scratch_38 : decode b_X_scratch 38 = .ok (.invokevirtual 113, 3) := by decide +kernel
theorem d_X_scratch_41 : decode b_X_scratch 41 = .ok (.ldc2_w 199, 3) := by decide +kernel
theorem d_X_scratch_44 : decode b_X_scratch 44 = .ok (.lxor, 1) := by decide +kernel
theorem d_X_scratch_45 : decode b_X_scratch 45 = .ok (.land, 1) := by decide +kernel
theorem d_X_scratch_46 : decode b_X_scratch 46 = .ok (.lreturn, 1) := by decide +kernel
theorem d_X_canPut_0 : decode b_X_canPut 0 = .ok (.aload_n 0, 1) := by decide +kernel
theorem d_X_canPut_1 : decode b_X_canPut 1 = .ok (.aload_n 1, 1) := by decide +kernel
theorem d_X_canPut_2 : decode b_X_canPut 2 = .ok (.invokevirtual 143, 3) := by decide +kernel
theorem d_X_canPut_5 : decode b_X_canPut 5 = .ok (.iload_n 2, 1) := by decide +kernel
theorem d_X_canPut_6 : decode b_X_canPut 6 = .ok (.invokestatic 147, 3) := by decide +kernel
theorem d_X_canPut_9 : decode b_X_canPut 9 = .ok (.ifCond .eq 28, 3) := by decide +kernel
theorem d_X_canPut_12 : decode b_X_canPut 12 = .ok (.aload_n 0, 1) := by decide +kernel
theorem d_X_canPut_13 : decode b_X_canPut 13 = .ok (.getfield 25, 3) := by decide +kernel
theorem d_X_canPut_16 : decode b_X_canPut 16 = .ok (.iload_n 2, 1) := by decide +kernel
theorem d_X_canPut_17 : decode b_X_canPut 17 = .ok (.invokevirtual 57, 3) := by decide +kernel
theorem d_X_canPut_20 : decode b_X_canPut 20 = .ok (.aload_n 1, 1) := by decide +kernel
theorem d_X_canPut_21 : decode b_X_canPut 21 = .ok (.getfield 110, 3) := by decide +kernel
theorem d_X_canPut_24 : decode b_X_canPut 24 = .ok (.invokevirtual 61, 3) := by decide +kernel
theorem d_X_canPut_27 : decode b_X_canPut 27 = .ok (.land, 1) := by decide +kernel
theorem d_X_canPut_28 : decode b_X_canPut 28 = .ok (.lconst 0, 1) := by decide +kernel
theorem d_X_canPut_29 : decode b_X_canPut 29 = .ok (.lcmp, 1) := by decide +kernel
theorem d_X_canPut_30 : decode b_X_canPut 30 = .ok (.ifCond .ne 7, 3) := by decide +kernel
theorem d_X_canPut_33 : decode b_X_canPut 33 = .ok (.iconst 1, 1) := by decide +kernel
theorem d_X_canPut_34 : decode b_X_canPut 34 = .ok (.goto 4, 3) := by decide +kernel
theorem d_X_canPut_37 : decode b_X_canPut 37 = .ok (.iconst 0, 1) := by decide +kernel
theorem d_X_canPut_38 : decode b_X_canPut 38 = .ok (.ireturn, 1) := by decide +kernel
theorem d_X_refuse_0 : decode b_X_refuse 0 = .ok (.aload_n 1, 1) := by decide +kernel
theorem d_X_refuse_1 : decode b_X_refuse 1 = .ok (.dup, 1) := by decide +kernel
theorem d_X_refuse_2 : decode b_X_refuse 2 = .ok (.getfield 180, 3) := by decide +kernel
theorem d_X_refuse_5 : decode b_X_refuse 5 = .ok (.iconst 1, 1) := by decide +kernel
theorem d_X_refuse_6 : decode b_X_refuse 6 = .ok (.iadd, 1) := by decide +kernel
theorem d_X_refuse_7 : decode b_X_refuse 7 = .ok (.putfield 180, 3) := by decide +kernel
theorem d_X_refuse_10 : decode b_X_refuse 10 = .ok (.aload_n 0, 1) := by decide +kernel
theorem d_X_refuse_11 : decode b_X_refuse 11 = .ok (.getfield 100, 3) := by decide +kernel
theorem d_X_refuse_14 : decode b_X_refuse 14 = .ok (.ifCond .eq 8, 3) := by decide +kernel
theorem d_X_refuse_17 : decode b_X_refuse 17 = .ok (.aload_n 1, 1) := by decide +kernel
theorem d_X_refuse_18 : decode b_X_refuse 18 = .ok (.iconst 1, 1) := by decide +kernel
theorem d_X_refuse_19 : decode b_X_refuse 19 = .ok (.putfield 158, 3) := by decide +kernel
theorem d_X_refuse_22 : decode b_X_refuse 22 = .ok (.iconst 0, 1) := by decide +kernel
theorem d_X_refuse_23 : decode b_X_refuse 23 = .ok (.ireturn, 1) := by decide +kernel
theorem d_X_firstOutputFault_0 : decode b_X_firstOutputFault 0 = .ok (.iconst 0, 1) := by decide +kernel
theorem d_X_firstOutputFault_1 : decode b_X_firstOutputFault 1 = .ok (.istore_n 2, 1) := by decide +kernel
theorem d_X_firstOutputFault_2 : decode b_X_firstOutputFault 2 = .ok (.iconst 0, 1) := by decide +kernel
theorem d_X_firstOutputFault_3 : decode b_X_firstOutputFault 3 = .ok (.istore_n 3, 1) := by decide +kernel
theorem d_X_firstOutputFault_4 : decode b_X_firstOutputFault 4 = .ok (.iload_n 3, 1) := by decide +kernel
theorem d_X_firstOutputFault_5 : decode b_X_firstOutputFault 5 = .ok (.aload_n 1, 1) := by decide +kernel
theorem d_X_firstOutputFault_6 : decode b_X_firstOutputFault 6 = .ok (.getfield 85, 3) := by decide +kernel
theorem d_X_firstOutputFault_9 : decode b_X_firstOutputFault 9 = .ok (.if_icmp .ge 77, 3) := by decide +kernel
theorem d_X_firstOutputFault_12 : decode b_X_firstOutputFault 12 = .ok (.aload_n 1, 1) := by decide +kernel
theorem d_X_firstOutputFault_13 : decode b_X_firstOutputFault 13 = .ok (.getfield 189, 3) := by decide +kernel
theorem d_X_firstOutputFault_16 : decode b_X_firstOutputFault 16 = .ok (.iload_n 3, 1) := by decide +kernel
theorem d_X_firstOutputFault_17 : decode b_X_firstOutputFault 17 = .ok (.baload, 1) := by decide +kernel
theorem d_X_firstOutputFault_18 : decode b_X_firstOutputFault 18 = .ok (.ifCond .eq 62, 3) := by decide +kernel
theorem d_X_firstOutputFault_21 : decode b_X_firstOutputFault 21 = .ok (.aload_n 0, 1) := by decide +kernel
theorem d_X_firstOutputFault_22 : decode b_X_firstOutputFault 22 = .ok (.getfield 25, 3) := by decide +kernel
theorem d_X_firstOutputFault_25 : decode b_X_firstOutputFault 25 = .ok (.aload_n 1, 1) := by decide +kernel
theorem d_X_firstOutputFault_26 : decode b_X_firstOutputFault 26 = .ok (.getfield 186, 3) := by decide +kernel
theorem d_X_firstOutputFault_29 : decode b_X_firstOutputFault 29 = .ok (.iload_n 3, 1) := by decide +kernel
theorem d_X_firstOutputFault_30 : decode b_X_firstOutputFault 30 = .ok (.iaload, 1) := by decide +kernel
theorem d_X_firstOutputFault_31 : decode b_X_firstOutputFault 31 = .ok (.invokevirtual 193, 3) := by decide +kernel
theorem d_X_firstOutputFault_34 : decode b_X_firstOutputFault 34 = .ok (.lstore 4, 2) := by decide +kernel
theorem d_X_firstOutputFault_36 : decode b_X_firstOutputFault 36 = .ok (.lload 4, 2) := by decide +kernel
theorem d_X_firstOutputFault_38 : decode b_X_firstOutputFault 38 = .ok (.aload_n 1, 1) := by decide +kernel
theorem d_X_firstOutputFault_39 : decode b_X_firstOutputFault 39 = .ok (.getfield 110, 3) := by decide +kernel
theorem d_X_firstOutputFault_42 : decode b_X_firstOutputFault 42 = .ok (.invokevirtual 61, 3) := by decide +kernel
theorem d_X_firstOutputFault_45 : decode b_X_firstOutputFault 45 = .ok (.land, 1) := by decide +kernel
theorem d_X_firstOutputFault_46 : decode b_X_firstOutputFault 46 = .ok (.lconst 0, 1) := by decide +kernel
theorem d_X_firstOutputFault_47 : decode b_X_firstOutputFault 47 = .ok (.lcmp, 1) := by decide +kernel
theorem d_X_firstOutputFault_48 : decode b_X_firstOutputFault 48 = .ok (.ifCond .ne 10, 3) := by decide +kernel
theorem d_X_firstOutputFault_51 : decode b_X_firstOutputFault 51 = .ok (.bipush (-10), 2) := by decide +kernel
theorem d_X_firstOutputFault_53 : decode b_X_firstOutputFault 53 = .ok (.iconst 2, 1) := by decide +kernel
theorem d_X_firstOutputFault_54 : decode b_X_firstOutputFault 54 = .ok (.iload_n 2, 1) := by decide +kernel
theorem d_X_firstOutputFault_55 : decode b_X_firstOutputFault 55 = .ok (.imul, 1) := by decide +kernel
theorem d_X_firstOutputFault_56 : decode b_X_firstOutputFault 56 = .ok (.isub, 1) := by decide +kernel
theorem d_X_firstOutputFault_57 : decode b_X_firstOutputFault 57 = .ok (.ireturn, 1) := by decide +kernel
theorem d_X_firstOutputFault_58 : decode b_X_firstOutputFault 58 = .ok (.aload_n 1, 1) := by decide +kernel
theorem d_X_firstOutputFault_59 : decode b_X_firstOutputFault 59 = .ok (.getfield 110, 3) := by decide +kernel
theorem d_X_firstOutputFault_62 : decode b_X_firstOutputFault 62 = .ok (.lload 4, 2) := by decide +kernel
theorem d_X_firstOutputFault_64 : decode b_X_firstOutputFault 64 = .ok (.invokevirtual 201, 3) := by decide +kernel
theorem d_X_firstOutputFault_67 : decode b_X_firstOutputFault 67 = .ok (.ifCond .eq 10, 3) := by decide +kernel
theorem d_X_firstOutputFault_70 : decode b_X_firstOutputFault 70 = .ok (.bipush (-11), 2) := by decide +kernel
theorem d_X_firstOutputFault_72 : decode b_X_firstOutputFault 72 = .ok (.iconst 2, 1) := by decide +kernel
theorem d_X_firstOutputFault_73 : decode b_X_firstOutputFault 73 = .ok (.iload_n 2, 1) := by decide +kernel
theorem d_X_firstOutputFault_74 : decode b_X_firstOutputFault 74 = .ok (.imul, 1) := by decide +kernel
theorem d_X_firstOutputFault_75 : decode b_X_firstOutputFault 75 = .ok (.isub, 1) := by decide +kernel
theorem d_X_firstOutputFault_76 : decode b_X_firstOutputFault 76 = .ok (.ireturn, 1) := by decide +kernel
theorem d_X_firstOutputFault_77 : decode b_X_firstOutputFault 77 = .ok (.iinc 2 1, 3) := by decide +kernel
theorem d_X_firstOutputFault_80 : decode b_X_firstOutputFault 80 = .ok (.iinc 3 1, 3) := by decide +kernel
theorem d_X_firstOutputFault_83 : decode b_X_firstOutputFault 83 = .ok (.goto (-79), 3) := by decide +kernel
theorem d_X_firstOutputFault_86 : decode b_X_firstOutputFault 86 = .ok (.iconst 0, 1) := by decide +kernel
theorem d_X_firstOutputFault_87 : decode b_X_firstOutputFault 87 = .ok (.ireturn, 1) := by decide +kernel
theorem d_X_gather_0 : decode b_X_gather 0 = .ok (.aload_n 0, 1) := by decide +kernel
theorem d_X_gather_1 : decode b_X_gather 1 = .ok (.aload_n 1, 1) := by decide +kernel
theorem d_X_gather_2 : decode b_X_gather 2 = .ok (.iconst 1, 1) := by decide +kernel
theorem d_X_gather_3 : decode b_X_gather 3 = .ok (.invokevirtual 113, 3) := by decide +kernel
theorem d_X_gather_6 : decode b_X_gather 6 = .ok (.lstore_n 2, 1) := by decide +kernel
theorem d_X_gather_7 : decode b_X_gather 7 = .ok (.lload_n 2, 1) := by decide +kernel
theorem d_X_gather_8 : decode b_X_gather 8 = .ok (.aload_n 1, 1) := by decide +kernel
theorem d_X_gather_9 : decode b_X_gather 9 = .ok (.getfield 110, 3) := by decide +kernel
theorem d_X_gather_12 : decode b_X_gather 12 = .ok (.invokevirtual 61, 3) := by decide +kernel
theorem d_X_gather_15 : decode b_X_gather 15 = .ok (.land, 1) := by decide +kernel
theorem d_X_gather_16 : decode b_X_gather 16 = .ok (.lstore 4, 2) := by decide +kernel
theorem d_X_gather_18 : decode b_X_gather 18 = .ok (.aload_n 0, 1) := by decide +kernel
theorem d_X_gather_19 : decode b_X_gather 19 = .ok (.getfield 25, 3) := by decide +kernel
theorem d_X_gather_22 : decode b_X_gather 22 = .ok (.lload 4, 2) := by decide +kernel
theorem d_X_gather_24 : decode b_X_gather 24 = .ok (.invokevirtual 205, 3) := by decide +kernel
theorem d_X_gather_27 : decode b_X_gather 27 = .ok (.lstore 6, 2) := by decide +kernel
theorem d_X_gather_29 : decode b_X_gather 29 = .ok (.aload_n 0, 1) := by decide +kernel
theorem d_X_gather_30 : decode b_X_gather 30 = .ok (.getfield 25, 3) := by decide +kernel
theorem d_X_gather_33 : decode b_X_gather 33 = .ok (.lload 6, 2) := by decide +kernel
theorem d_X_gather_35 : decode b_X_gather 35 = .ok (.invokevirtual 209, 3) := by decide +kernel
theorem d_X_gather_38 : decode b_X_gather 38 = .ok (.ifCond .eq 6, 3) := by decide +kernel
theorem d_X_gather_41 : decode b_X_gather 41 = .ok (.bipush (-3), 2) := by decide +kernel
theorem d_X_gather_43 : decode b_X_gather 43 = .ok (.ireturn, 1) := by decide +kernel
theorem d_X_gather_44 : decode b_X_gather 44 = .ok (.aload_n 0, 1) := by decide +kernel
theorem d_X_gather_45 : decode b_X_gather 45 = .ok (.getfield 32, 3) := by decide +kernel
theorem d_X_gather_48 : decode b_X_gather 48 = .ok (.invokevirtual 61, 3) := by decide +kernel
theorem d_X_gather_51 : decode b_X_gather 51 = .ok (.lload_n 2, 1) := by decide +kernel
theorem d_X_gather_52 : decode b_X_gather 52 = .ok (.ldc2_w 199, 3) := by decide +kernel
theorem d_X_gather_55 : decode b_X_gather 55 = .ok (.lxor, 1) := by decide +kernel
theorem d_X_gather_56 : decode b_X_gather 56 = .ok (.land, 1) := by decide +kernel
theorem d_X_gather_57 : decode b_X_gather 57 = .ok (.lstore 8, 2) := by decide +kernel
theorem d_X_gather_59 : decode b_X_gather 59 = .ok (.lload 6, 2) := by decide +kernel
theorem d_X_gather_61 : decode b_X_gather 61 = .ok (.lload 8, 2) := by decide +kernel
theorem d_X_gather_63 : decode b_X_gather 63 = .ok (.land, 1) := by decide +kernel
theorem d_X_gather_64 : decode b_X_gather 64 = .ok (.lconst 0, 1) := by decide +kernel
theorem d_X_gather_65 : decode b_X_gather 65 = .ok (.lcmp, 1) := by decide +kernel
theorem d_X_gather_66 : decode b_X_gather 66 = .ok (.ifCond .eq 6, 3) := by decide +kernel
theorem d_X_gather_69 : decode b_X_gather 69 = .ok (.bipush (-4), 2) := by decide +kernel
theorem d_X_gather_71 : decode b_X_gather 71 = .ok (.ireturn, 1) := by decide +kernel
theorem d_X_gather_72 : decode b_X_gather 72 = .ok (.iconst 1, 1) := by decide +kernel
theorem d_X_gather_73 : decode b_X_gather 73 = .ok (.istore 10, 2) := by decide +kernel
theorem d_X_gather_75 : decode b_X_gather 75 = .ok (.iload 10, 2) := by decide +kernel
theorem d_X_gather_77 : decode b_X_gather 77 = .ok (.bipush 60, 2) := by decide +kernel
theorem d_X_gather_79 : decode b_X_gather 79 = .ok (.if_icmp .ge 58, 3) := by decide +kernel
theorem d_X_gather_82 : decode b_X_gather 82 = .ok (.lload 4, 2) := by decide +kernel
theorem d_X_gather_84 : decode b_X_gather 84 = .ok (.iload 10, 2) := by decide +kernel
theorem d_X_gather_86 : decode b_X_gather 86 = .ok (.invokestatic 147, 3) := by decide +kernel
theorem d_X_gather_89 : decode b_X_gather 89 = .ok (.ifCond .eq 24, 3) := by decide +kernel
theorem d_X_gather_92 : decode b_X_gather 92 = .ok (.aload_n 0, 1) := by decide +kernel
theorem d_X_gather_93 : decode b_X_gather 93 = .ok (.getfield 32, 3) := by decide +kernel
theorem d_X_gather_96 : decode b_X_gather 96 = .ok (.iload 10, 2) := by decide +kernel
theorem d_X_gather_98 : decode b_X_gather 98 = .ok (.aload_n 1, 1) := by decide +kernel
theorem d_X_gather_99 : decode b_X_gather 99 = .ok (.getfield 110, 3) := by decide +kernel
theorem d_X_gather_102 : decode b_X_gather 102 = .ok (.iload 10, 2) := by decide +kernel
theorem d_X_gather_104 : decode b_X_gather 104 = .ok (.invokevirtual 73, 3) := by decide +kernel
theorem d_X_gather_107 : decode b_X_gather 107 = .ok (.invokevirtual 69, 3) := by decide +kernel
theorem d_X_gather_110 : decode b_X_gather 110 = .ok (.goto 21, 3) := by decide +kernel
theorem d_X_gather_113 : decode b_X_gather 113 = .ok (.lload_n 2, 1) := by decide +kernel
theorem d_X_gather_114 : decode b_X_gather 114 = .ok (.iload 10, 2) := by decide +kernel
theorem d_X_gather_116 : decode b_X_gather 116 = .ok (.invokestatic 147, 3) := by decide +kernel
theorem d_X_gather_119 : decode b_X_gather 119 = .ok (.ifCond .eq 12, 3) := by decide +kernel
theorem d_X_gather_122 : decode b_X_gather 122 = .ok (.aload_n 0, 1) := by decide +kernel
theorem d_X_gather_123 : decode b_X_gather 123 = .ok (.getfield 32, 3) := by decide +kernel
theorem d_X_gather_126 : decode b_X_gather 126 = .ok (.iload 10, 2) := by decide +kernel
theorem d_X_gather_128 : decode b_X_gather 128 = .ok (.invokevirtual 65, 3) := by decide +kernel
theorem d_X_gather_131 : decode b_X_gather 131 = .ok (.iinc 10 1, 3) := by decide +kernel
theorem d_X_gather_134 : decode b_X_gather 134 = .ok (.goto (-59), 3) := by decide +kernel
theorem d_X_gather_137 : decode b_X_gather 137 = .ok (.lload 4, 2) := by decide +kernel
theorem d_X_gather_139 : decode b_X_gather 139 = .ok (.invokestatic 121, 3) := by decide +kernel
theorem d_X_gather_142 : decode b_X_gather 142 = .ok (.ireturn, 1) := by decide +kernel
theorem d_X_isLetter_0 : decode b_X_isLetter 0 = .ok (.iload_n 0, 1) := by decide +kernel
theorem d_X_isLetter_1 : decode b_X_isLetter 1 = .ok (.bipush 97, 2) := by decide +kernel
theorem d_X_isLetter_3 : decode b_X_isLetter 3 = .ok (.if_icmp .lt 9, 3) := by decide +kernel
theorem d_X_isLetter_6 : decode b_X_isLetter 6 = .ok (.iload_n 0, 1) := by decide +kernel
theorem d_X_isLetter_7 : decode b_X_isLetter 7 = .ok (.bipush 122, 2) := by decide +kernel
theorem d_X_isLetter_9 : decode b_X_isLetter 9 = .ok (.if_icmp .le 15, 3) := by decide +kernel
theorem d_X_isLetter_12 : decode b_X_isLetter 12 = .ok (.iload_n 0, 1) := by decide +kernel
theorem d_X_isLetter_13 : decode b_X_isLetter 13 = .ok (.bipush 65, 2) := by decide +kernel
theorem d_X_isLetter_15 : decode b_X_isLetter 15 = .ok (.if_icmp .lt 13, 3) := by decide +kernel
theorem d_X_isLetter_18 : decode b_X_isLetter 18 = .ok (.iload_n 0, 1) := by decide +kernel
theorem d_X_isLetter_19 : decode b_X_isLetter 19 = .ok (.bipush 90, 2) := by decide +kernel
theorem d_X_isLetter_21 : decode b_X_isLetter 21 = .ok (.if_icmp .gt 7, 3) := by decide +kernel
theorem d_X_isLetter_24 : decode b_X_isLetter 24 = .ok (.iconst 1, 1) := by decide +kernel
theorem d_X_isLetter_25 : decode b_X_isLetter 25 = .ok (.goto 4, 3) := by decide +kernel
theorem d_X_isLetter_28 : decode b_X_isLetter 28 = .ok (.iconst 0, 1) := by decide +kernel
theorem d_X_isLetter_29 : decode b_X_isLetter 29 = .ok (.ireturn, 1) := by decide +kernel
theorem d_X_only_0 : decode b_X_only 0 = .ok (.lconst 1, 1) := by decide +kernel
theorem d_X_only_1 : decode b_X_only 1 = .ok (.iload_n 0, 1) := by decide +kernel
theorem d_X_only_2 : decode b_X_only 2 = .ok (.lshl, 1) := by decide +kernel
theorem d_X_only_3 : decode b_X_only 3 = .ok (.lreturn, 1) := by decide +kernel
theorem d_X_holds_0 : decode b_X_holds 0 = .ok (.lload_n 0, 1) := by decide +kernel
theorem d_X_holds_1 : decode b_X_holds 1 = .ok (.iload_n 2, 1) := by decide +kernel
theorem d_X_holds_2 : decode b_X_holds 2 = .ok (.invokestatic 183, 3) := by decide +kernel
theorem d_X_holds_5 : decode b_X_holds 5 = .ok (.land, 1) := by decide +kernel
theorem d_X_holds_6 : decode b_X_holds 6 = .ok (.lconst 0, 1) := by decide +kernel
theorem d_X_holds_7 : decode b_X_holds 7 = .ok (.lcmp, 1) := by decide +kernel
theorem d_X_holds_8 : decode b_X_holds 8 = .ok (.ifCond .eq 7, 3) := by decide +kernel
theorem d_X_holds_11 : decode b_X_holds 11 = .ok (.iconst 1, 1) := by decide +kernel
theorem d_X_holds_12 : decode b_X_holds 12 = .ok (.goto 4, 3) := by decide +kernel
theorem d_X_holds_15 : decode b_X_holds 15 = .ok (.iconst 0, 1) := by decide +kernel
theorem d_X_holds_16 : decode b_X_holds 16 = .ok (.ireturn, 1) := by decide +kernel
theorem d_M_init_0 : decode b_M_init 0 = .ok (.aload_n 0, 1) := by decide +kernel
theorem d_M_init_1 : decode b_M_init 1 = .ok (.invokespecial 1, 3) := by decide +kernel
theorem d_M_init_4 : decode b_M_init 4 = .ok (.aload_n 0, 1) := by decide +kernel
theorem d_M_init_5 : decode b_M_init 5 = .ok (.iconst 1, 1) := by decide +kernel
theorem d_M_init_6 : decode b_M_init 6 = .ok (.putfield 7, 3) := by decide +kernel
theorem d_M_init_9 : decode b_M_init 9 = .ok (.aload_n 0, 1) := by decide +kernel
theorem d_M_init_10 : decode b_M_init 10 = .ok (.bipush 60, 2) := by decide +kernel
theorem d_M_init_12 : decode b_M_init 12 = .ok (.newarray .int, 2) := by decide +kernel
theorem d_M_init_14 : decode b_M_init 14 = .ok (.putfield 13, 3) := by decide +kernel
theorem d_M_init_17 : decode b_M_init 17 = .ok (.aload_n 0, 1) := by decide +kernel
theorem d_M_init_18 : decode b_M_init 18 = .ok (.bipush 60, 2) := by decide +kernel
theorem d_M_init_20 : decode b_M_init 20 = .ok (.newarray .int, 2) := by decide +kernel
theorem d_M_init_22 : decode b_M_init 22 = .ok (.putfield 17, 3) := by decide +kernel
theorem d_M_init_25 : decode b_M_init 25 = .ok (.aload_n 0, 1) := by decide +kernel
theorem d_M_init_26 : decode b_M_init 26 = .ok (.bipush 60, 2) := by decide +kernel
theorem d_M_init_28 : decode b_M_init 28 = .ok (.newarray .int, 2) := by decide +kernel
theorem d_M_init_30 : decode b_M_init 30 = .ok (.putfield 20, 3) := by decide +kernel
theorem d_M_init_33 : decode b_M_init 33 = .ok (.aload_n 0, 1) := by decide +kernel
theorem d_M_init_34 : decode b_M_init 34 = .ok (.bipush 60, 2) := by decide +kernel
theorem d_M_init_36 : decode b_M_init 36 = .ok (.newarray .int, 2) := by decide +kernel
theorem d_M_init_38 : decode b_M_init 38 = .ok (.putfield 23, 3) := by decide +kernel
theorem d_M_init_41 : decode b_M_init 41 = .ok (.aload_n 0, 1) := by decide +kernel
theorem d_M_init_42 : decode b_M_init 42 = .ok (.bipush 10, 2) := by decide +kernel
theorem d_M_init_44 : decode b_M_init 44 = .ok (.newarray .int, 2) := by decide +kernel
theorem d_M_init_46 : decode b_M_init 46 = .ok (.putfield 26, 3) := by decide +kernel
theorem d_M_init_49 : decode b_M_init 49 = .ok (.aload_n 0, 1) := by decide +kernel
theorem d_M_init_50 : decode b_M_init 50 = .ok (.bipush 120, 2) := by decide +kernel
theorem d_M_init_52 : decode b_M_init 52 = .ok (.newarray .int, 2) := by decide +kernel
theorem d_M_init_54 : decode b_M_init 54 = .ok (.putfield 29, 3) := by decide +kernel
theorem d_M_init_57 : decode b_M_init 57 = .ok (.aload_n 0, 1) := by decide +kernel
theorem d_M_init_58 : decode b_M_init 58 = .ok (.bipush 10, 2) := by decide +kernel
theorem d_M_init_60 : decode b_M_init 60 = .ok (.newarray .int, 2) := by decide +kernel
theorem d_M_init_62 : decode b_M_init 62 = .ok (.putfield 32, 3) := by decide +kernel
theorem d_M_init_65 : decode b_M_init 65 = .ok (.aload_n 0, 1) := by decide +kernel
theorem d_M_init_66 : decode b_M_init 66 = .ok (.bipush 10, 2) := by decide +kernel
theorem d_M_init_68 : decode b_M_init 68 = .ok (.newarray .int, 2) := by decide +kernel
theorem d_M_init_70 : decode b_M_init 70 = .ok (.putfield 35, 3) := by decide +kernel
theorem d_M_init_73 : decode b_M_init 73 = .ok (.aload_n 0, 1) := by decide +kernel
theorem d_M_init_74 : decode b_M_init 74 = .ok (.bipush 10, 2) := by decide +kernel
theorem d_M_init_76 : decode b_M_init 76 = .ok (.newarray .int, 2) := by decide +kernel
theorem d_M_init_78 : decode b_M_init 78 = .ok (.putfield 38, 3) := by decide +kernel
theorem d_M_init_81 : decode b_M_init 81 = .ok (.aload_n 0, 1) := by decide +kernel
theorem d_M_init_82 : decode b_M_init 82 = .ok (.sipush 600, 3) := by decide +kernel
theorem d_M_init_85 : decode b_M_init 85 = .ok (.newarray .int, 2) := by decide +kernel
theorem d_M_init_87 : decode b_M_init 87 = .ok (.putfield 41, 3) := by decide +kernel
theorem d_M_init_90 : decode b_M_init 90 = .ok (.aload_n 0, 1) := by decide +kernel
theorem d_M_init_91 : decode b_M_init 91 = .ok (.sipush 600, 3) := by decide +kernel
theorem d_M_init_94 : decode b_M_init 94 = .ok (.newarray .int, 2) := by decide +kernel
theorem d_M_init_96 : decode b_M_init 96 = .ok (.putfield 44, 3) := by decide +kernel
theorem d_M_init_99 : decode b_M_init 99 = .ok (.aload_n 0, 1) := by decide +kernel
theorem d_M_init_100 : decode b_M_init 100 = .ok (.bipush 120, 2) := by decide +kernel
theorem d_M_init_102 : decode b_M_init 102 = .ok (.newarray .boolean, 2) := by decide +kernel
theorem d_M_init_104 : decode b_M_init 104 = .ok (.putfield 47, 3) := by decide +kernel
theorem d_M_init_107 : decode b_M_init 107 = .ok (.aload_n 0, 1) := by decide +kernel
theorem d_M_init_108 : decode b_M_init 108 = .ok (.bipush 10, 2) := by decide +kernel
theorem d_M_init_110 : decode b_M_init 110 = .ok (.newarray .boolean, 2) := by decide +kernel
theorem d_M_init_112 : decode b_M_init 112 = .ok (.putfield 51, 3) := by decide +kernel
theorem d_M_init_115 : decode b_M_init 115 = .ok (.aload_n 0, 1) := by decide +kernel
theorem d_M_init_116 : decode b_M_init 116 = .ok (.bipush 10, 2) := by decide +kernel
theorem d_M_init_118 : decode b_M_init 118 = .ok (.newarray .boolean, 2) := by decide +kernel
theorem d_M_init_120 : decode b_M_init 120 = .ok (.putfield 54, 3) := by decide +kernel
theorem d_M_init_123 : decode b_M_init 123 = .ok (.aload_n 0, 1) := by decide +kernel
theorem d_M_init_124 : decode b_M_init 124 = .ok (.bipush 10, 2) := by decide +kernel
theorem d_M_init_126 : decode b_M_init 126 = .ok (.newarray .boolean, 2) := by decide +kernel
theorem d_M_init_128 : decode b_M_init 128 = .ok (.putfield 57, 3) := by decide +kernel
theorem d_M_init_131 : decode b_M_init 131 = .ok (.aload_n 0, 1) := by decide +kernel
theorem d_M_init_132 : decode b_M_init 132 = .ok (.bipush 60, 2) := by decide +kernel
theorem d_M_init_134 : decode b_M_init 134 = .ok (.newarray .boolean, 2) := by decide +kernel
theorem d_M_init_136 : decode b_M_init 136 = .ok (.putfield 60, 3) := by decide +kernel
theorem d_M_init_139 : decode b_M_init 139 = .ok (.aload_n 0, 1) := by decide +kernel
theorem d_M_init_140 : decode b_M_init 140 = .ok (.iload_n 1, 1) := by decide +kernel
theorem d_M_init_141 : decode b_M_init 141 = .ok (.iconst 1, 1) := by decide +kernel
theorem d_M_init_142 : decode b_M_init 142 = .ok (.if_icmp .ge 7, 3) := by decide +kernel
theorem d_M_init_145 : decode b_M_init 145 = .ok (.iconst 1, 1) := by decide +kernel
theorem d_M_init_146 : decode b_M_init 146 = .ok (.goto 17, 3) := by decide +kernel
theorem d_M_init_149 : decode b_M_init 149 = .ok (.iload_n 1, 1) := by decide +kernel
theorem d_M_init_150 : decode b_M_init 150 = .ok (.sipush 500, 3) := by decide +kernel
theorem d_M_init_153 : decode b_M_init 153 = .ok (.if_icmp .le 9, 3) := by decide +kernel
theorem d_M_init_156 : decode b_M_init 156 = .ok (.sipush 500, 3) := by decide +kernel
theorem d_M_init_159 : decode b_M_init 159 = .ok (.goto 4, 3) := by decide +kernel
theorem d_M_init_162 : decode b_M_init 162 = .ok (.iload_n 1, 1) := by decide +kernel
theorem d_M_init_163 : decode b_M_init 163 = .ok (.putfield 63, 3) := by decide +kernel
theorem d_M_init_166 : decode b_M_init 166 = .ok (.aload_n 0, 1) := by decide +kernel
theorem d_M_init_167 : decode b_M_init 167 = .ok (.getfield 13, 3) := by decide +kernel
theorem d_M_init_170 : decode b_M_init 170 = .ok (.iconst 0, 1) := by decide +kernel
theorem d_M_init_171 : decode b_M_init 171 = .ok (.iconst (-1), 1) := by decide +kernel
theorem d_M_init_172 : decode b_M_init 172 = .ok (.iastore, 1) := by decide +kernel
theorem d_M_init_173 : decode b_M_init 173 = .ok (.return_, 1) := by decide +kernel
theorem d_M_isPath_0 : decode b_M_isPath 0 = .ok (.iload_n 1, 1) := by decide +kernel
theorem d_M_isPath_1 : decode b_M_isPath 1 = .ok (.ifCond .lt 15, 3) := by decide +kernel
theorem d_M_isPath_4 : decode b_M_isPath 4 = .ok (.iload_n 1, 1) := by decide +kernel
theorem d_M_isPath_5 : decode b_M_isPath 5 = .ok (.aload_n 0, 1) := by decide +kernel
theorem d_M_isPath_6 : decode b_M_isPath 6 = .ok (.getfield 7, 3) := by decide +kernel
theorem d_M_isPath_9 : decode b_M_isPath 9 = .ok (.if_icmp .ge 7, 3) := by decide +kernel
theorem d_M_isPath_12 : decode b_M_isPath 12 = .ok (.iconst 1, 1) := by decide +kernel
theorem d_M_isPath_13 : decode b_M_isPath 13 = .ok (.goto 4, 3) := by decide +kernel
theorem d_M_isPath_16 : decode b_M_isPath 16 = .ok (.iconst 0, 1) := by decide +kernel
theorem d_M_isPath_17 : decode b_M_isPath 17 = .ok (.ireturn, 1) := by decide +kernel
theorem d_M_isAction_0 : decode b_M_isAction 0 = .ok (.iload_n 1, 1) := by decide +kernel
theorem d_M_isAction_1 : decode b_M_isAction 1 = .ok (.ifCond .lt 15, 3) := by decide +kernel
theorem d_M_isAction_4 : decode b_M_isAction 4 = .ok (.iload_n 1, 1) := by decide +kernel
theorem d_M_isAction_5 : decode b_M_isAction 5 = .ok (.aload_n 0, 1) := by decide +kernel
theorem d_M_isAction_6 : decode b_M_isAction 6 = .ok (.getfield 69, 3) := by decide +kernel
theorem d_M_isAction_9 : decode b_M_isAction 9 = .ok (.if_icmp .ge 7, 3) := by decide +kernel
theorem d_M_isAction_12 : decode b_M_isAction 12 = .ok (.iconst 1, 1) := by decide +kernel
theorem d_M_isAction_13 : decode b_M_isAction 13 = .ok (.goto 4, 3) := by decide +kernel
theorem d_M_isAction_16 : decode b_M_isAction 16 = .ok (.iconst 0, 1) := by decide +kernel
theorem d_M_isAction_17 : decode b_M_isAction 17 = .ok (.ireturn, 1) := by decide +kernel
theorem d_M_lower_0 : decode b_M_lower 0 = .ok (.iload_n 0, 1) := by decide +kernel
theorem d_M_lower_1 : decode b_M_lower 1 = .ok (.bipush 65, 2) := by decide +kernel
theorem d_M_lower_3 : decode b_M_lower 3 = .ok (.if_icmp .lt 16, 3) := by decide +kernel
theorem d_M_lower_6 : decode b_M_lower 6 = .ok (.iload_n 0, 1) := by decide +kernel
theorem d_M_lower_7 : decode b_M_lower 7 = .ok (.bipush 90, 2) := by decide +kernel
theorem d_M_lower_9 : decode b_M_lower 9 = .ok (.if_icmp .gt 10, 3) := by decide +kernel
theorem d_M_lower_12 : decode b_M_lower 12 = .ok (.iload_n 0, 1) := by decide +kernel
theorem d_M_lower_13 : decode b_M_lower 13 = .ok (.bipush 32, 2) := by decide +kernel
theorem d_M_lower_15 : decode b_M_lower 15 = .ok (.iadd, 1) := by decide +kernel
theorem d_M_lower_16 : decode b_M_lower 16 = .ok (.goto 4, 3) := by decide +kernel
theorem d_M_lower_19 : decode b_M_lower 19 = .ok (.iload_n 0, 1) := by decide +kernel
theorem d_M_lower_20 : decode b_M_lower 20 = .ok (.ireturn, 1) := by decide +kernel
end
section
theorem d_M_child_0 : decode b_M_child 0 = .ok (.iconst (-1), 1) := by decide +kernel
theorem d_M_child_1 : decode b_M_child 1 = .ok (.istore_n 3, 1) := by decide +kernel
theorem d_M_child_2 : decode b_M_child 2 = .ok (.iconst 1, 1) := by decide +kernel
theorem d_M_child_3 : decode b_M_child 3 = .ok (.istore 4, 2) := by decide +kernel
theorem d_M_child_5 : decode b_M_child 5 = .ok (.iload 4, 2) := by decide +kernel
theorem d_M_child_7 : decode b_M_child 7 = .ok (.aload_n 0, 1) := by decide +kernel
theorem d_M_child_8 : decode b_M_child 8 = .ok (.getfield 7, 3) := by decide +kernel
theorem d_M_child_11 : decode b_M_child 11 = .ok (.if_icmp .ge 38, 3) := by decide +kernel
theorem d_M_child_14 : decode b_M_child 14 = .ok (.aload_n 0, 1) := by decide +kernel
theorem d_M_child_15 : decode b_M_child 15 = .ok (.getfield 13, 3) := by decide +kernel
theorem d_M_child_18 : decode b_M_child 18 = .ok (.iload 4, 2) := by decide +kernel
theorem d_M_child_20 : decode b_M_child 20 = .ok (.iaload, 1) := by decide +kernel
theorem d_M_child_21 : decode b_M_child 21 = .ok (.iload_n 1, 1) := by decide +kernel
theorem d_M_child_22 : decode b_M_child 22 = .ok (.if_icmp .ne 19, 3) := by decide +kernel
theorem d_M_child_25 : decode b_M_child 25 = .ok (.aload_n 0, 1) := by decide +kernel
theorem d_M_child_26 : decode b_M_child 26 = .ok (.getfield 17, 3) := by decide +kernel
theorem d_M_child_29 : decode b_M_child 29 = .ok (.iload 4, 2) := by decide +kernel
theorem d_M_child_31 : decode b_M_child 31 = .ok (.iaload, 1) := by decide +kernel
theorem d_M_child_32 : decode b_M_child 32 = .ok (.iload_n 2, 1) := by decide +kernel
theorem d_M_child_33 : decode b_M_child 33 = .ok (.if_icmp .ne 8, 3) := by decide +kernel
theorem d_M_child_36 : decode b_M_child 36 = .ok (.iload 4, 2) := by decide +kernel
theorem d_M_child_38 : decode b_M_child 38 = .ok (.goto 4, 3) := by decide +kernel
theorem d_M_child_41 : decode b_M_child 41 = .ok (.iload_n 3, 1) := by decide +kernel
theorem d_M_child_42 : decode b_M_child 42 = .ok (.istore_n 3, 1) := by decide +kernel
theorem d_M_child_43 : decode b_M_child 43 = .ok (.iinc 4 1, 3) := by decide +kernel
theorem d_M_child_46 : decode b_M_child 46 = .ok (.goto (-41), 3) := by decide +kernel
theorem d_M_child_49 : decode b_M_child 49 = .ok (.iload_n 3, 1) := by decide +kernel
theorem d_M_child_50 : decode b_M_child 50 = .ok (.ireturn, 1) := by decide +kernel
theorem d_M_path_0 : decode b_M_path 0 = .ok (.aload_n 0, 1) := by decide +kernel
theorem d_M_path_1 : decode b_M_path 1 = .ok (.iconst 0, 1) := by decide +kernel
theorem d_M_path_2 : decode b_M_path 2 = .ok (.putfield 66, 3) := by decide +kernel
theorem d_M_path_5 : decode b_M_path 5 = .ok (.aload_n 0, 1) := by decide +kernel
theorem d_M_path_6 : decode b_M_path 6 = .ok (.iload_n 1, 1) := by decide +kernel
theorem d_M_path_7 : decode b_M_path 7 = .ok (.invokevirtual 72, 3) := by decide +kernel
theorem d_M_path_10 : decode b_M_path 10 = .ok (.ifCond .eq 21, 3) := by decide +kernel
theorem d_M_path_13 : decode b_M_path 13 = .ok (.iload_n 2, 1) := by decide +kernel
theorem d_M_path_14 : decode b_M_path 14 = .ok (.invokestatic 76, 3) := by decide +kernel
theorem d_M_path_17 : decode b_M_path 17 = .ok (.bipush 97, 2) := by decide +kernel
theorem d_M_path_19 : decode b_M_path 19 = .ok (.if_icmp .lt 12, 3) := by decide +kernel
theorem d_M_path_22 : decode b_M_path 22 = .ok (.iload_n 2, 1) := by decide +kernel
theorem d_M_path_23 : decode b_M_path 23 = .ok (.invokestatic 76, 3) := by decide +kernel
theorem d_M_path_26 : decode b_M_path 26 = .ok (.bipush 122, 2) := by decide +kernel
theorem d_M_path_28 : decode b_M_path 28 = .ok (.if_icmp .le 5, 3) := by decide +kernel
theorem d_M_path_31 : decode b_M_path 31 = .ok (.iconst (-1), 1) := by decide +kernel
theorem d_M_path_32 : decode b_M_path 32 = .ok (.ireturn, 1) := by decide +kernel
theorem d_M_path_33 : decode b_M_path 33 = .ok (.aload_n 0, 1) := by decide +kernel
theorem d_M_path_34 : decode b_M_path 34 = .ok (.iload_n 1, 1) := by decide +kernel
theorem d_M_path_35 : decode b_M_path 35 = .ok (.iload_n 2, 1) := by decide +kernel
theorem d_M_path_36 : decode b_M_path 36 = .ok (.invokevirtual 80, 3) := by decide +kernel
theorem d_M_path_39 : decode b_M_path 39 = .ok (.istore_n 3, 1) := by decide +kernel
theorem d_M_path_40 : decode b_M_path 40 = .ok (.iload_n 3, 1) := by decide +kernel
theorem d_M_path_41 : decode b_M_path 41 = .ok (.iconst (-1), 1) := by decide +kernel
theorem d_M_path_42 : decode b_M_path 42 = .ok (.if_icmp .ne 12, 3) := by decide +kernel
theorem d_M_path_45 : decode b_M_path 45 = .ok (.aload_n 0, 1) := by decide +kernel
theorem d_M_path_46 : decode b_M_path 46 = .ok (.getfield 7, 3) := by decide +kernel
theorem d_M_path_49 : decode b_M_path 49 = .ok (.bipush 60, 2) := by decide +kernel
theorem d_M_path_51 : decode b_M_path 51 = .ok (.if_icmp .ne 5, 3) := by decide +kernel
theorem d_M_path_54 : decode b_M_path 54 = .ok (.iload_n 3, 1) := by decide +kernel
theorem d_M_path_55 : decode b_M_path 55 = .ok (.ireturn, 1) := by decide +kernel
theorem d_M_path_56 : decode b_M_path 56 = .ok (.aload_n 0, 1) := by decide +kernel
theorem d_M_path_57 : decode b_M_path 57 = .ok (.getfield 13, 3) := by decide +kernel
theorem d_M_path_60 : decode b_M_path 60 = .ok (.aload_n 0, 1) := by decide +kernel
theorem d_M_path_61 : decode b_M_path 61 = .ok (.getfield 7, 3) := by decide +kernel
theorem d_M_path_64 : decode b_M_path 64 = .ok (.iload_n 1, 1) := by decide +kernel
theorem d_M_path_65 : decode b_M_path 65 = .ok (.iastore, 1) := by decide +kernel
theorem d_M_path_66 : decode b_M_path 66 = .ok (.aload_n 0, 1) := by decide +kernel
theorem d_M_path_67 : decode b_M_path 67 = .ok (.getfield 17, 3) := by decide +kernel
theorem d_M_path_70 : decode b_M_path 70 = .ok (.aload_n 0, 1) := by decide +kernel
theorem d_M_path_71 : decode b_M_path 71 = .ok (.getfield 7, 3) := by decide +kernel
theorem d_M_path_74 : decode b_M_path 74 = .ok (.iload_n 2, 1) := by decide +kernel
theorem d_M_path_75 : decode b_M_path 75 = .ok (.iastore, 1) := by decide +kernel
theorem d_M_path_76 : decode b_M_path 76 = .ok (.aload_n 0, 1) := by decide +kernel
theorem d_M_path_77 : decode b_M_path 77 = .ok (.dup, 1) := by decide +kernel
theorem d_M_path_78 : decode b_M_path 78 = .ok (.getfield 7, 3) := by decide +kernel
theorem d_M_path_81 : decode b_M_path 81 = .ok (.iconst 1, 1) := by decide +kernel
theorem d_M_path_82 : decode b_M_path 82 = .ok (.iadd, 1) := by decide +kernel
theorem d_M_path_83 : decode b_M_path 83 = .ok (.putfield 7, 3) := by decide +kernel
theorem d_M_path_86 : decode b_M_path 86 = .ok (.aload_n 0, 1) := by decide +kernel
theorem d_M_path_87 : decode b_M_path 87 = .ok (.getfield 7, 3) := by decide +kernel
theorem d_M_path_90 : decode b_M_path 90 = .ok (.iconst 1, 1) := by decide +kernel
theorem d_M_path_91 : decode b_M_path 91 = .ok (.isub, 1) := by decide +kernel
theorem d_M_path_92 : decode b_M_path 92 = .ok (.ireturn, 1) := by decide +kernel
theorem d_M_isUnder_0 : decode b_M_isUnder 0 = .ok (.iload_n 1, 1) := by decide +kernel
theorem d_M_isUnder_1 : decode b_M_isUnder 1 = .ok (.istore_n 3, 1) := by decide +kernel
theorem d_M_isUnder_2 : decode b_M_isUnder 2 = .ok (.iload_n 3, 1) := by decide +kernel
theorem d_M_isUnder_3 : decode b_M_isUnder 3 = .ok (.iconst (-1), 1) := by decide +kernel
theorem d_M_isUnder_4 : decode b_M_isUnder 4 = .ok (.if_icmp .eq 18, 3) := by decide +kernel
theorem d_M_isUnder_7 : decode b_M_isUnder 7 = .ok (.iload_n 3, 1) := by decide +kernel
theorem d_M_isUnder_8 : decode b_M_isUnder 8 = .ok (.iload_n 2, 1) := by decide +kernel
theorem d_M_isUnder_9 : decode b_M_isUnder 9 = .ok (.if_icmp .eq 13, 3) := by decide +kernel
theorem d_M_isUnder_12 : decode b_M_isUnder 12 = .ok (.aload_n 0, 1) := by decide +kernel
theorem d_M_isUnder_13 : decode b_M_isUnder 13 = .ok (.getfield 13, 3) := by decide +kernel
theorem d_M_isUnder_16 : decode b_M_isUnder 16 = .ok (.iload_n 3, 1) := by decide +kernel
theorem d_M_isUnder_17 : decode b_M_isUnder 17 = .ok (.iaload, 1) := by decide +kernel
theorem d_M_isUnder_18 : decode b_M_isUnder 18 = .ok (.istore_n 3, 1) := by decide +kernel
theorem d_M_isUnder_19 : decode b_M_isUnder 19 = .ok (.goto (-17), 3) := by decide +kernel
theorem d_M_isUnder_22 : decode b_M_isUnder 22 = .ok (.iload_n 3, 1) := by decide +kernel
theorem d_M_isUnder_23 : decode b_M_isUnder 23 = .ok (.iload_n 2, 1) := by decide +kernel
theorem d_M_isUnder_24 : decode b_M_isUnder 24 = .ok (.if_icmp .ne 7, 3) := by decide +kernel
theorem d_M_isUnder_27 : decode b_M_isUnder 27 = .ok (.iconst 1, 1) := by decide +kernel
theorem d_M_isUnder_28 : decode b_M_isUnder 28 = .ok (.goto 4, 3) := by decide +kernel
theorem d_M_isUnder_31 : decode b_M_isUnder 31 = .ok (.iconst 0, 1) := by decide +kernel
theorem d_M_isUnder_32 : decode b_M_isUnder 32 = .ok (.ireturn, 1) := by decide +kernel
theorem d_M_file_0 : decode b_M_file 0 = .ok (.aload_n 0, 1) := by decide +kernel
theorem d_M_file_1 : decode b_M_file 1 = .ok (.iconst 0, 1) := by decide +kernel
theorem d_M_file_2 : decode b_M_file 2 = .ok (.putfield 66, 3) := by decide +kernel
theorem d_M_file_5 : decode b_M_file 5 = .ok (.aload_n 0, 1) := by decide +kernel
theorem d_M_file_6 : decode b_M_file 6 = .ok (.iload_n 1, 1) := by decide +kernel
theorem d_M_file_7 : decode b_M_file 7 = .ok (.invokevirtual 72, 3) := by decide +kernel
theorem d_M_file_10 : decode b_M_file 10 = .ok (.ifCond .eq 11, 3) := by decide +kernel
theorem d_M_file_13 : decode b_M_file 13 = .ok (.iload_n 1, 1) := by decide +kernel
theorem d_M_file_14 : decode b_M_file 14 = .ok (.ifCond .eq 7, 3) := by decide +kernel
theorem d_M_file_17 : decode b_M_file 17 = .ok (.iload_n 2, 1) := by decide +kernel
theorem d_M_file_18 : decode b_M_file 18 = .ok (.ifCond .ge 5, 3) := by decide +kernel
theorem d_M_file_21 : decode b_M_file 21 = .ok (.iconst 0, 1) := by decide +kernel
theorem d_M_file_22 : decode b_M_file 22 = .ok (.ireturn, 1) := by decide +kernel
theorem d_M_file_23 : decode b_M_file 23 = .ok (.iconst 1, 1) := by decide +kernel
theorem d_M_file_24 : decode b_M_file 24 = .ok (.istore_n 3, 1) := by decide +kernel
theorem d_M_file_25 : decode b_M_file 25 = .ok (.iload_n 3, 1) := by decide +kernel
theorem d_M_file_26 : decode b_M_file 26 = .ok (.aload_n 0, 1) := by decide +kernel
theorem d_M_file_27 : decode b_M_file 27 = .ok (.getfield 7, 3) := by decide +kernel
theorem d_M_file_30 : decode b_M_file 30 = .ok (.if_icmp .ge 43, 3) := by decide +kernel
theorem d_M_file_33 : decode b_M_file 33 = .ok (.iload_n 3, 1) := by decide +kernel
theorem d_M_file_34 : decode b_M_file 34 = .ok (.iload_n 1, 1) := by decide +kernel
theorem d_M_file_35 : decode b_M_file 35 = .ok (.if_icmp .eq 32, 3) := by decide +kernel
theorem d_M_file_38 : decode b_M_file 38 = .ok (.aload_n 0, 1) := by decide +kernel
theorem d_M_file_39 : decode b_M_file 39 = .ok (.getfield 20, 3) := by decide +kernel
theorem d_M_file_42 : decode b_M_file 42 = .ok (.iload_n 3, 1) := by decide +kernel
theorem d_M_file_43 : decode b_M_file 43 = .ok (.iaload, 1) := by decide +kernel
theorem d_M_file_44 : decode b_M_file 44 = .ok (.ifCond .le 23, 3) := by decide +kernel
theorem d_M_file_47 : decode b_M_file 47 = .ok (.aload_n 0, 1) := by decide +kernel
theorem d_M_file_48 : decode b_M_file 48 = .ok (.iload_n 3, 1) := by decide +kernel
theorem d_M_file_49 : decode b_M_file 49 = .ok (.iload_n 1, 1) := by decide +kernel
theorem d_M_file_50 : decode b_M_file 50 = .ok (.invokevirtual 84, 3) := by decide +kernel
theorem d_M_file_53 : decode b_M_file 53 = .ok (.ifCond .ne 12, 3) := by decide +kernel
theorem d_M_file_56 : decode b_M_file 56 = .ok (.aload_n 0, 1) := by decide +kernel
theorem d_M_file_57 : decode b_M_file 57 = .ok (.iload_n 1, 1) := by decide +kernel
theorem d_M_file_58 : decode b_M_file 58 = .ok (.iload_n 3, 1) := by decide +kernel
theorem d_M_file_59 : decode b_M_file 59 = .ok (.invokevirtual 84, 3) := by decide +kernel
theorem d_M_file_62 : decode b_M_file 62 = .ok (.ifCond .eq 5, 3) := by decide +kernel
theorem d_M_file_65 : decode b_M_file 65 = .ok (.iconst 0, 1) := by decide +kernel
theorem d_M_file_66 : decode b_M_file 66 = .ok (.ireturn, 1) := by decide +kernel
theorem d_M_file_67 : decode b_M_file 67 = .ok (.iinc 3 1, 3) := by decide +kernel
theorem d_M_file_70 : decode b_M_file 70 = .ok (.goto (-45), 3) := by decide +kernel
theorem d_M_file_73 : decode b_M_file 73 = .ok (.aload_n 0, 1) := by decide +kernel
theorem d_M_file_74 : decode b_M_file 74 = .ok (.getfield 20, 3) := by decide +kernel
theorem d_M_file_77 : decode b_M_file 77 = .ok (.iload_n 1, 1) := by decide +kernel
theorem d_M_file_78 : decode b_M_file 78 = .ok (.iload_n 2, 1) := by decide +kernel
theorem d_M_file_79 : decode b_M_file 79 = .ok (.iastore, 1) := by decide +kernel
theorem d_M_file_80 : decode b_M_file 80 = .ok (.iconst 1, 1) := by decide +kernel
theorem d_M_file_81 : decode b_M_file 81 = .ok (.ireturn, 1) := by decide +kernel
theorem d_M_source_0 : decode b_M_source 0 = .ok (.aload_n 0, 1) := by decide +kernel
theorem d_M_source_1 : decode b_M_source 1 = .ok (.iconst 0, 1) := by decide +kernel
theorem d_M_source_2 : decode b_M_source 2 = .ok (.putfield 66, 3) := by decide +kernel
theorem d_M_source_5 : decode b_M_source 5 = .ok (.aload_n 0, 1) := by decide +kernel
theorem d_M_source_6 : decode b_M_source 6 = .ok (.iload_n 1, 1) := by decide +kernel
theorem d_M_source_7 : decode b_M_source 7 = .ok (.invokevirtual 72, 3) := by decide +kernel
theorem d_M_source_10 : decode b_M_source 10 = .ok (.ifCond .eq 12, 3) := by decide +kernel
theorem d_M_source_13 : decode b_M_source 13 = .ok (.aload_n 0, 1) := by decide +kernel
theorem d_M_source_14 : decode b_M_source 14 = .ok (.getfield 20, 3) := by decide +kernel
theorem d_M_source_17 : decode b_M_source 17 = .ok (.iload_n 1, 1) := by decide +kernel
theorem d_M_source_18 : decode b_M_source 18 = .ok (.iaload, 1) := by decide +kernel
theorem d_M_source_19 : decode b_M_source 19 = .ok (.goto 4, 3) := by decide +kernel
theorem d_M_source_22 : decode b_M_source 22 = .ok (.iconst 0, 1) := by decide +kernel
theorem d_M_source_23 : decode b_M_source 23 = .ok (.ireturn, 1) := by decide +kernel
theorem d_M_action_0 : decode b_M_action 0 = .ok (.aload_n 0, 1) := by decide +kernel
theorem d_M_action_1 : decode b_M_action 1 = .ok (.iconst 0, 1) := by decide +kernel
theorem d_M_action_2 : decode b_M_action 2 = .ok (.putfield 66, 3) := by decide +kernel
theorem d_M_action_5 : decode b_M_action 5 = .ok (.aload_n 0, 1) := by decide +kernel
theorem d_M_action_6 : decode b_M_action 6 = .ok (.getfield 69, 3) := by decide +kernel
theorem d_M_action_9 : decode b_M_action 9 = .ok (.bipush 10, 2) := by decide +kernel
theorem d_M_action_11 : decode b_M_action 11 = .ok (.if_icmp .ne 5, 3) := by decide +kernel
theorem d_M_action_14 : decode b_M_action 14 = .ok (.iconst (-1), 1) := by decide +kernel
theorem d_M_action_15 : decode b_M_action 15 = .ok (.ireturn, 1) := by decide +kernel
theorem d_M_action_16 : decode b_M_action 16 = .ok (.aload_n 0, 1) := by decide +kernel
theorem d_M_action_17 : decode b_M_action 17 = .ok (.dup, 1) := by decide +kernel
theorem d_M_action_18 : decode b_M_action 18 = .ok (.getfield 69, 3) := by decide +kernel
theorem d_M_action_21 : decode b_M_action 21 = .ok (.iconst 1, 1) := by decide +kernel
theorem d_M_action_22 : decode b_M_action 22 = .ok (.iadd, 1) := by decide +kernel
theorem d_M_action_23 : decode b_M_action 23 = .ok (.putfield 69, 3) := by decide +kernel
theorem d_M_action_26 : decode b_M_action 26 = .ok (.aload_n 0, 1) := by decide +kernel
theorem d_M_action_27 : decode b_M_action 27 = .ok (.getfield 69, 3) := by decide +kernel
theorem d_M_action_30 : decode b_M_action 30 = .ok (.iconst 1, 1) := by decide +kernel
theorem d_M_action_31 : decode b_M_action 31 = .ok (.isub, 1) := by decide +kernel
theorem d_M_action_32 : decode b_M_action 32 = .ok (.ireturn, 1) := by decide +kernel
theorem d_M_declare_0 : decode b_M_declare 0 = .ok (.aload_n 0, 1) := by decide +kernel
theorem d_M_declare_1 : decode b_M_declare 1 = .ok (.iconst 0, 1) := by decide +kernel
theorem d_M_declare_2 : decode b_M_declare 2 = .ok (.putfield 66, 3) := by decide +kernel
theorem d_M_declare_5 : decode b_M_declare 5 = .ok (.aload_n 0, 1) := by decide +kernel
theorem d_M_declare_6 : decode b_M_declare 6 = .ok (.iload_n 1, 1) := by decide +kernel
theorem d_M_declare_7 : decode b_M_declare 7 = .ok (.invokevirtual 88, 3) := by decide +kernel
theorem d_M_declare_10 : decode b_M_declare 10 = .ok (.ifCond .eq 35, 3) := by decide +kernel
theorem d_M_declare_13 : decode b_M_declare 13 = .ok (.aload_n 0, 1) := by decide +kernel
theorem d_M_declare_14 : decode b_M_declare 14 = .ok (.iload_n 2, 1) := by decide +kernel
theorem d_M_declare_15 : decode b_M_declare 15 = .ok (.invokevirtual 72, 3) := by decide +kernel
theorem d_M_declare_18 : decode b_M_declare 18 = .ok (.ifCond .eq 27, 3) := by decide +kernel
theorem d_M_declare_21 : decode b_M_declare 21 = .ok (.iload_n 2, 1) := by decide +kernel
theorem d_M_declare_22 : decode b_M_declare 22 = .ok (.ifCond .eq 23, 3) := by decide +kernel
theorem d_M_declare_25 : decode b_M_declare 25 = .ok (.aload_n 0, 1) := by decide +kernel
theorem d_M_declare_26 : decode b_M_declare 26 = .ok (.getfield 26, 3) := by decide +kernel
theorem d_M_declare_29 : decode b_M_declare 29 = .ok (.iload_n 1, 1) := by decide +kernel
theorem d_M_declare_30 : decode b_M_declare 30 = .ok (.iaload, 1) := by decide +kernel
theorem d_M_declare_31 : decode b_M_declare 31 = .ok (.bipush 12, 2) := by decide +kernel
theorem d_M_declare_33 : decode b_M_declare 33 = .ok (.if_icmp .eq 12, 3) := by decide +kernel
theorem d_M_declare_36 : decode b_M_declare 36 = .ok (.aload_n 0, 1) := by decide +kernel
theorem d_M_declare_37 : decode b_M_declare 37 = .ok (.getfield 51, 3) := by decide +kernel
theorem d_M_declare_40 : decode b_M_declare 40 = .ok (.iload_n 1, 1) := by decide +kernel
theorem d_M_declare_41 : decode b_M_declare 41 = .ok (.baload, 1) := by decide +kernel
theorem d_M_declare_42 : decode b_M_declare 42 = .ok (.ifCond .eq 5, 3) := by decide +kernel
theorem d_M_declare_45 : decode b_M_declare 45 = .ok (.iconst (-1), 1) := by decide +kernel
theorem d_M_declare_46 : decode b_M_declare 46 = .ok (.ireturn, 1) := by decide +kernel
theorem d_M_declare_47 : decode b_M_declare 47 = .ok (.iconst 0, 1) := by decide +kernel
theorem d_M_declare_48 : decode b_M_declare 48 = .ok (.istore 4, 2) := by decide +kernel
theorem d_M_declare_50 : decode b_M_declare 50 = .ok (.iload 4, 2) := by decide +kernel
theorem d_M_declare_52 : decode b_M_declare 52 = .ok (.aload_n 0, 1) := by decide +kernel
theorem d_M_declare_53 : decode b_M_declare 53 = .ok (.getfield 26, 3) := by decide +kernel
theorem d_M_declare_56 : decode b_M_declare 56 = .ok (.iload_n 1, 1) := by decide +kernel
theorem d_M_declare_57 : decode b_M_declare 57 = .ok (.iaload, 1) := by decide +kernel
theorem d_M_declare_58 : decode b_M_declare 58 = .ok (.if_icmp .ge 52, 3) := by decide +kernel
theorem d_M_declare_61 : decode b_M_declare 61 = .ok (.aload_n 0, 1) := by decide +kernel
theorem d_M_declare_62 : decode b_M_declare 62 = .ok (.iload_n 2, 1) := by decide +kernel
theorem d_M_declare_63 : decode b_M_declare 63 = .ok (.aload_n 0, 1) := by decide +kernel
theorem d_M_declare_64 : decode b_M_declare 64 = .ok (.getfield 29, 3) := by decide +kernel
theorem d_M_declare_67 : decode b_M_declare 67 = .ok (.bipush 12, 2) := by decide +kernel
theorem d_M_declare_69 : decode b_M_declare 69 = .ok (.iload_n 1, 1) := by decide +kernel
theorem d_M_declare_70 : decode b_M_declare 70 = .ok (.imul, 1) := by decide +kernel
theorem d_M_declare_71 : decode b_M_declare 71 = .ok (.iload 4, 2) := by decide +kernel
theorem d_M_declare_73 : decode b_M_declare 73 = .ok (.iadd, 1) := by decide +kernel
theorem d_M_declare_74 : decode b_M_declare 74 = .ok (.iaload, 1) := by decide +kernel
theorem d_M_declare_75 : decode b_M_declare 75 = .ok (.invokevirtual 84, 3) := by decide +kernel
theorem d_M_declare_78 : decode b_M_declare 78 = .ok (.ifCond .ne 23, 3) := by decide +kernel
theorem d_M_declare_81 : decode b_M_declare 81 = .ok (.aload_n 0, 1) := by decide +kernel
theorem d_M_declare_82 : decode b_M_declare 82 = .ok (.aload_n 0, 1) := by decide +kernel
theorem d_M_declare_83 : decode b_M_declare 83 = .ok (.getfield 29, 3) := by decide +kernel
theorem d_M_declare_86 : decode b_M_declare 86 = .ok (.bipush 12, 2) := by decide +kernel
theorem d_M_declare_88 : decode b_M_declare 88 = .ok (.iload_n 1, 1) := by decide +kernel
theorem d_M_declare_89 : decode b_M_declare 89 = .ok (.imul, 1) := by decide +kernel
theorem d_M_declare_90 : decode b_M_declare 90 = .ok (.iload 4, 2) := by decide +kernel
theorem d_M_declare_92 : decode b_M_declare 92 = .ok (.iadd, 1) := by decide +kernel
theorem d_M_declare_93 : decode b_M_declare 93 = .ok (.iaload, 1) := by decide +kernel
theorem d_M_declare_94 : decode b_M_declare 94 = .ok (.iload_n 2, 1) := by decide +kernel
theorem d_M_declare_95 : decode b_M_declare 95 = .ok (.invokevirtual 84, 3) := by decide +kernel
theorem d_M_declare_98 : decode b_M_declare 98 = .ok (.ifCond .eq 6, 3) := by decide +kernel
theorem d_M_declare_101 : decode b_M_declare 101 = .ok (.bipush (-2), 2) := by decide +kernel
theorem d_M_declare_103 : decode b_M_declare 103 = .ok (.ireturn, 1) := by decide +kernel
theorem d_M_declare_104 : decode b_M_declare 104 = .ok (.iinc 4 1, 3) := by decide +kernel
theorem d_M_declare_107 : decode b_M_declare 107 = .ok (.goto (-57), 3) := by decide +kernel
theorem d_M_declare_110 : decode b_M_declare 110 = .ok (.aload_n 0, 1) := by decide +kernel
theorem d_M_declare_111 : decode b_M_declare 111 = .ok (.getfield 29, 3) := by decide +kernel
theorem d_M_declare_114 : decode b_M_declare 114 = .ok (.bipush 12, 2) := by decide +kernel
theorem d_M_declare_116 : decode b_M_declare 116 = .ok (.iload_n 1, 1) := by decide +kernel
theorem d_M_declare_117 : decode b_M_declare 117 = .ok (.imul, 1) := by decide +kernel
theorem d_M_declare_118 : decode b_M_declare 118 = .ok (.aload_n 0, 1) := by decide +kernel
theorem d_M_declare_119 : decode b_M_declare 119 = .ok (.getfield 26, 3) := by decide +kernel
theorem d_M_declare_122 : decode b_M_declare 122 = .ok (.iload_n 1, 1) := by decide +kernel
theorem d_M_declare_123 : decode b_M_declare 123 = .ok (.iaload, 1) := by decide +kernel
theorem d_M_declare_124 : decode b_M_declare 124 = .ok (.iadd, 1) := by decide +kernel
theorem d_M_declare_125 : decode b_M_declare 125 = .ok (.iload_n 2, 1) := by decide +kernel
theorem d_M_declare_126 : decode b_M_declare 126 = .ok (.iastore, 1) := by decide +kernel
theorem d_M_declare_127 : decode b_M_declare 127 = .ok (.aload_n 0, 1) := by decide +kernel
theorem d_M_declare_128 : decode b_M_declare 128 = .ok (.getfield 47, 3) := by decide +kernel
theorem d_M_declare_131 : decode b_M_declare 131 = .ok (.bipush 12, 2) := by decide +kernel
theorem d_M_declare_133 : decode b_M_declare 133 = .ok (.iload_n 1, 1) := by decide +kernel
theorem d_M_declare_134 : decode b_M_declare 134 = .ok (.imul, 1) := by decide +kernel
theorem d_M_declare_135 : decode b_M_declare 135 = .ok (.aload_n 0, 1) := by decide +kernel
theorem d_M_declare_136 : decode b_M_declare 136 = .ok (.getfield 26, 3) := by decide +kernel
theorem d_M_declare_139 : decode b_M_declare 139 = .ok (.iload_n 1, 1) := by decide +kernel
theorem d_M_declare_140 : decode b_M_declare 140 = .ok (.iaload, 1) := by decide +kernel
theorem d_M_declare_141 : decode b_M_declare 141 = .ok (.iadd, 1) := by decide +kernel
theorem d_M_declare_142 : decode b_M_declare 142 = .ok (.iload_n 3, 1) := by decide +kernel
theorem d_M_declare_143 : decode b_M_declare 143 = .ok (.bastore, 1) := by decide +kernel
theorem d_M_declare_144 : decode b_M_declare 144 = .ok (.aload_n 0, 1) := by decide +kernel
theorem d_M_declare_145 : decode b_M_declare 145 = .ok (.getfield 26, 3) := by decide +kernel
theorem d_M_declare_148 : decode b_M_declare 148 = .ok (.iload_n 1, 1) := by decide +kernel
theorem d_M_declare_149 : decode b_M_declare 149 = .ok (.dup2, 1) := by decide +kernel
theorem d_M_declare_150 : decode b_M_declare 150 = .ok (.iaload, 1) := by decide +kernel
theorem d_M_declare_151 : decode b_M_declare 151 = .ok (.iconst 1, 1) := by decide +kernel
theorem d_M_declare_152 : decode b_M_declare 152 = .ok (.iadd, 1) := by decide +kernel
theorem d_M_declare_153 : decode b_M_declare 153 = .ok (.iastore, 1) := by decide +kernel
theorem d_M_declare_154 : decode b_M_declare 154 = .ok (.iconst 1, 1) := by decide +kernel
theorem d_M_declare_155 : decode b_M_declare 155 = .ok (.ireturn, 1) := by decide +kernel
theorem d_M_strict_0 : decode b_M_strict 0 = .ok (.aload_n 0, 1) := by decide +kernel
theorem d_M_strict_1 : decode b_M_strict 1 = .ok (.iconst 0, 1) := by decide +kernel
theorem d_M_strict_2 : decode b_M_strict 2 = .ok (.putfield 66, 3) := by decide +kernel
theorem d_M_strict_5 : decode b_M_strict 5 = .ok (.aload_n 0, 1) := by decide +kernel
theorem d_M_strict_6 : decode b_M_strict 6 = .ok (.iload_n 1, 1) := by decide +kernel
theorem d_M_strict_7 : decode b_M_strict 7 = .ok (.putfield 91, 3) := by decide +kernel
theorem d_M_strict_10 : decode b_M_strict 10 = .ok (.return_, 1) := by decide +kernel
theorem d_M_isDeclared_0 : decode b_M_isDeclared 0 = .ok (.iconst 0, 1) := by decide +kernel
theorem d_M_isDeclared_1 : decode b_M_isDeclared 1 = .ok (.istore 4, 2) := by decide +kernel
theorem d_M_isDeclared_3 : decode b_M_isDeclared 3 = .ok (.iconst 0, 1) := by decide +kernel
theorem d_M_isDeclared_4 : decode b_M_isDeclared 4 = .ok (.istore 5, 2) := by decide +kernel
theorem d_M_isDeclared_6 : decode b_M_isDeclared 6 = .ok (.iload 5, 2) := by decide +kernel
theorem d_M_isDeclared_8 : decode b_M_isDeclared 8 = .ok (.aload_n 0, 1) := by decide +kernel
theorem d_M_isDeclared_9 : decode b_M_isDeclared 9 = .ok (.getfield 26, 3) := by decide +kernel
theorem d_M_isDeclared_12 : decode b_M_isDeclared 12 = .ok (.iload_n 1, 1) := by decide +kernel
theorem d_M_isDeclared_13 : decode b_M_isDeclared 13 = .ok (.iaload, 1) := by decide +kernel
theorem d_M_isDeclared_14 : decode b_M_isDeclared 14 = .ok (.if_icmp .ge 57, 3) := by decide +kernel
theorem d_M_isDeclared_17 : decode b_M_isDeclared 17 = .ok (.iload 4, 2) := by decide +kernel
theorem d_M_isDeclared_19 : decode b_M_isDeclared 19 = .ok (.ifCond .ne 39, 3) := by decide +kernel
theorem d_M_isDeclared_22 : decode b_M_isDeclared 22 = .ok (.aload_n 0, 1) := by decide +kernel
theorem d_M_isDeclared_23 : decode b_M_isDeclared 23 = .ok (.getfield 47, 3) := by decide +kernel
theorem d_M_isDeclared_26 : decode b_M_isDeclared 26 = .ok (.bipush 12, 2) := by decide +kernel
theorem d_M_isDeclared_28 : decode b_M_isDeclared 28 = .ok (.iload_n 1, 1) := by decide +kernel
theorem d_M_isDeclared_29 : decode b_M_isDeclared 29 = .ok (.imul, 1) := by decide +kernel
theorem d_M_isDeclared_30 : decode b_M_isDeclared 30 = .ok (.iload 5, 2) := by decide +kernel
theorem d_M_isDeclared_32 : decode b_M_isDeclared 32 = .ok (.iadd, 1) := by decide +kernel
theorem d_M_isDeclared_33 : decode b_M_isDeclared 33 = .ok (.baload, 1) := by decide +kernel
theorem d_M_isDeclared_34 : decode b_M_isDeclared 34 = .ok (.iload_n 3, 1) := by decide +kernel
theorem d_M_isDeclared_35 : decode b_M_isDeclared 35 = .ok (.if_icmp .ne 27, 3) := by decide +kernel
theorem d_M_isDeclared_38 : decode b_M_isDeclared 38 = .ok (.aload_n 0, 1) := by decide +kernel
theorem d_M_isDeclared_39 : decode b_M_isDeclared 39 = .ok (.iload_n 2, 1) := by decide +kernel
theorem d_M_isDeclared_40 : decode b_M_isDeclared 40 = .ok (.aload_n 0, 1) := by decide +kernel
theorem d_M_isDeclared_41 : decode b_M_isDeclared 41 = .ok (.getfield 29, 3) := by decide +kernel
theorem d_M_isDeclared_44 : decode b_M_isDeclared 44 = .ok (.bipush 12, 2) := by decide +kernel
theorem d_M_isDeclared_46 : decode b_M_isDeclared 46 = .ok (.iload_n 1, 1) := by decide +kernel
theorem d_M_isDeclared_47 : decode b_M_isDeclared 47 = .ok (.imul, 1) := by decide +kernel
theorem d_M_isDeclared_48 : decode b_M_isDeclared 48 = .ok (.iload 5, 2) := by decide +kernel
theorem d_M_isDeclared_50 : decode b_M_isDeclared 50 = .ok (.iadd, 1) := by decide +kernel
theorem d_M_isDeclared_51 : decode b_M_isDeclared 51 = .ok (.iaload, 1) := by decide +kernel
theorem d_M_isDeclared_52 : decode b_M_isDeclared 52 = .ok (.invokevirtual 84, 3) := by decide +kernel
theorem d_M_isDeclared_55 : decode b_M_isDeclared 55 = .ok (.ifCond .eq 7, 3) := by decide +kernel
theorem d_M_isDeclared_58 : decode b_M_isDeclared 58 = .ok (.iconst 1, 1) := by decide +kernel
theorem d_M_isDeclared_59 : decode b_M_isDeclared 59 = .ok (.goto 4, 3) := by decide +kernel
theorem d_M_isDeclared_62 : decode b_M_isDeclared 62 = .ok (.iconst 0, 1) := by decide +kernel
theorem d_M_isDeclared_63 : decode b_M_isDeclared 63 = .ok (.istore 4, 2) := by decide +kernel
theorem d_M_isDeclared_65 : decode b_M_isDeclared 65 = .ok (.iinc 5 1, 3) := by decide +kernel
theorem d_M_isDeclared_68 : decode b_M_isDeclared 68 = .ok (.goto (-62), 3) := by decide +kernel
theorem d_M_isDeclared_71 : decode b_M_isDeclared 71 = .ok (.iload 4, 2) := by decide +kernel
theorem d_M_isDeclared_73 : decode b_M_isDeclared 73 = .ok (.ireturn, 1) := by decide +kernel
theorem d_M_isWritable_0 : decode b_M_isWritable 0 = .ok (.aload_n 0, 1) := by decide +kernel
theorem d_M_isWritable_1 : decode b_M_isWritable 1 = .ok (.iload_n 1, 1) := by decide +kernel
theorem d_M_isWritable_2 : decode b_M_isWritable 2 = .ok (.iload_n 2, 1) := by decide +kernel
theorem d_M_isWritable_3 : decode b_M_isWritable 3 = .ok (.iconst 1, 1) := by decide +kernel
theorem d_M_isWritable_4 : decode b_M_isWritable 4 = .ok (.invokevirtual 95, 3) := by decide +kernel
theorem d_M_isWritable_7 : decode b_M_isWritable 7 = .ok (.ifCond .eq 5, 3) := by decide +kernel
theorem d_M_isWritable_10 : decode b_M_isWritable 10 = .ok (.iconst 1, 1) := by decide +kernel
theorem d_M_isWritable_11 : decode b_M_isWritable 11 = .ok (.ireturn, 1) := by decide +kernel
theorem d_M_isWritable_12 : decode b_M_isWritable 12 = .ok (.aload_n 0, 1) := by decide +kernel
theorem d_M_isWritable_13 : decode b_M_isWritable 13 = .ok (.iconst 0, 1) := by decide +kernel
theorem d_M_isWritable_14 : decode b_M_isWritable 14 = .ok (.bipush 122, 2) := by decide +kernel
theorem d_M_isWritable_16 : decode b_M_isWritable 16 = .ok (.invokevirtual 80, 3) := by decide +kernel
theorem d_M_isWritable_19 : decode b_M_isWritable 19 = .ok (.istore_n 3, 1) := by decide +kernel
theorem d_M_isWritable_20 : decode b_M_isWritable 20 = .ok (.iload_n 3, 1) := by decide +kernel
theorem d_M_isWritable_21 : decode b_M_isWritable 21 = .ok (.iconst (-1), 1) := by decide +kernel
theorem d_M_isWritable_22 : decode b_M_isWritable 22 = .ok (.if_icmp .eq 31, 3) := by decide +kernel
theorem d_M_isWritable_25 : decode b_M_isWritable 25 = .ok (.iload_n 2, 1) := by decide +kernel
theorem d_M_isWritable_26 : decode b_M_isWritable 26 = .ok (.iload_n 3, 1) := by decide +kernel
theorem d_M_isWritable_27 : decode b_M_isWritable 27 = .ok (.if_icmp .eq 26, 3) := by decide +kernel
theorem d_M_isWritable_30 : decode b_M_isWritable 30 = .ok (.aload_n 0, 1) := by decide +kernel
theorem d_M_isWritable_31 : decode b_M_isWritable 31 = .ok (.iload_n 2, 1) := by decide +kernel
theorem d_M_isWritable_32 : decode b_M_isWritable 32 = .ok (.iload_n 3, 1) := by decide +kernel
theorem d_M_isWritable_33 : decode b_M_isWritable 33 = .ok (.invokevirtual 84, 3) := by decide +kernel
theorem d_M_isWritable_36 : decode b_M_isWritable 36 = .ok (.ifCond .eq 17, 3) := by decide +kernel
theorem d_M_isWritable_39 : decode b_M_isWritable 39 = .ok (.aload_n 0, 1) := by decide +kernel
theorem d_M_isWritable_40 : decode b_M_isWritable 40 = .ok (.iload_n 1, 1) := by decide +kernel
theorem d_M_isWritable_41 : decode b_M_isWritable 41 = .ok (.iload_n 2, 1) := by decide +kernel
theorem d_M_isWritable_42 : decode b_M_isWritable 42 = .ok (.iconst 0, 1) := by decide +kernel
theorem d_M_isWritable_43 : decode b_M_isWritable 43 = .ok (.invokevirtual 95, 3) := by decide +kernel
theorem d_M_isWritable_46 : decode b_M_isWritable 46 = .ok (.ifCond .ne 7, 3) := by decide +kernel
theorem d_M_isWritable_49 : decode b_M_isWritable 49 = .ok (.iconst 1, 1) := by decide +kernel
theorem d_M_isWritable_50 : decode b_M_isWritable 50 = .ok (.goto 4, 3) := by decide +kernel
theorem d_M_isWritable_53 : decode b_M_isWritable 53 = .ok (.iconst 0, 1) := by decide +kernel
theorem d_M_isWritable_54 : decode b_M_isWritable 54 = .ok (.ireturn, 1) := by decide +kernel
theorem d_M_begin_0 : decode b_M_begin 0 = .ok (.aload_n 0, 1) := by decide +kernel
theorem d_M_begin_1 : decode b_M_begin 1 = .ok (.iconst 0, 1) := by decide +kernel
theorem d_M_begin_2 : decode b_M_begin 2 = .ok (.putfield 66, 3) := by decide +kernel
theorem d_M_begin_5 : decode b_M_begin 5 = .ok (.aload_n 0, 1) := by decide +kernel
theorem d_M_begin_6 : decode b_M_begin 6 = .ok (.iload_n 1, 1) := by decide +kernel
theorem d_M_begin_7 : decode b_M_begin 7 = .ok (.invokevirtual 88, 3) := by decide +kernel
theorem d_M_begin_10 : decode b_M_begin 10 = .ok (.ifCond .eq 12, 3) := by decide +kernel
theorem d_M_begin_13 : decode b_M_begin 13 = .ok (.aload_n 0, 1) := by decide +kernel
theorem d_M_begin_14 : decode b_M_begin 14 = .ok (.getfield 51, 3) := by decide +kernel
theorem d_M_begin_17 : decode b_M_begin 17 = .ok (.iload_n 1, 1) := by decide +kernel
theorem d_M_begin_18 : decode b_M_begin 18 = .ok (.baload, 1) := by decide +kernel
theorem d_M_begin_19 : decode b_M_begin 19 = .ok (.ifCond .eq 5, 3) := by decide +kernel
theorem d_M_begin_22 : decode b_M_begin 22 = .ok (.iconst (-1), 1) := by decide +kernel
theorem d_M_begin_23 : decode b_M_begin 23 = .ok (.ireturn, 1) := by decide +kernel
theorem d_M_begin_24 : decode b_M_begin 24 = .ok (.iconst 0, 1) := by decide +kernel
theorem d_M_begin_25 : decode b_M_begin 25 = .ok (.istore_n 2, 1) := by decide +kernel
theorem d_M_begin_26 : decode b_M_begin 26 = .ok (.iload_n 2, 1) := by decide +kernel
theorem d_M_begin_27 : decode b_M_begin 27 = .ok (.aload_n 0, 1) := by decide +kernel
theorem d_M_begin_28 : decode b_M_begin 28 = .ok (.getfield 26, 3) := by decide +kernel
theorem d_M_begin_31 : decode b_M_begin 31 = .ok (.iload_n 1, 1) := by decide +kernel
theorem d_M_begin_32 : decode b_M_begin 32 = .ok (.iaload, 1) := by decide +kernel
theorem d_M_begin_33 : decode b_M_begin 33 = .ok (.if_icmp .ge 86, 3) := by decide +kernel
theorem d_M_begin_36 : decode b_M_begin 36 = .ok (.aload_n 0, 1) := by decide +kernel
theorem d_M_begin_37 : decode b_M_begin 37 = .ok (.getfield 47, 3) := by decide +kernel
theorem d_M_begin_40 : decode b_M_begin 40 = .ok (.bipush 12, 2) := by decide +kernel
theorem d_M_begin_42 : decode b_M_begin 42 = .ok (.iload_n 1, 1) := by decide +kernel
theorem d_M_begin_43 : decode b_M_begin 43 = .ok (.imul, 1) := by decide +kernel
theorem d_M_begin_44 : decode b_M_begin 44 = .ok (.iload_n 2, 1) := by decide +kernel
theorem d_M_begin_45 : decode b_M_begin 45 = .ok (.iadd, 1) := by decide +kernel
theorem d_M_begin_46 : decode b_M_begin 46 = .ok (.baload, 1) := by decide +kernel
theorem d_M_begin_47 : decode b_M_begin 47 = .ok (.istore_n 3, 1) := by decide +kernel
theorem d_M_begin_48 : decode b_M_begin 48 = .ok (.iconst 1, 1) := by decide +kernel
theorem d_M_begin_49 : decode b_M_begin 49 = .ok (.istore 4, 2) := by decide +kernel
theorem d_M_begin_51 : decode b_M_begin 51 = .ok (.iload 4, 2) := by decide +kernel
theorem d_M_begin_53 : decode b_M_begin 53 = .ok (.aload_n 0, 1) := by decide +kernel
theorem d_M_begin_54 : decode b_M_begin 54 = .ok (.getfield 7, 3) := by decide +kernel
theorem d_M_begin_57 : decode b_M_begin 57 = .ok (.if_icmp .ge 49, 3) := by decide +kernel
theorem d_M_begin_60 : decode b_M_begin 60 = .ok (.iload_n 3, 1) := by decide +kernel
theorem d_M_begin_61 : decode b_M_begin 61 = .ok (.ifCond .ne 33, 3) := by decide +kernel
theorem d_M_begin_64 : decode b_M_begin 64 = .ok (.aload_n 0, 1) := by decide +kernel
theorem d_M_begin_65 : decode b_M_begin 65 = .ok (.getfield 20, 3) := by decide +kernel
theorem d_M_begin_68 : decode b_M_begin 68 = .ok (.iload 4, 2) := by decide +kernel
theorem d_M_begin_70 : decode b_M_begin 70 = .ok (.iaload, 1) := by decide +kernel
theorem d_M_begin_71 : decode b_M_begin 71 = .ok (.ifCond .le 27, 3) := by decide +kernel
theorem d_M_begin_74 : decode b_M_begin 74 = .ok (.aload_n 0, 1) := by decide +kernel
theorem d_M_begin_75 : decode b_M_begin 75 = .ok (.iload 4, 2) := by decide +kernel
theorem d_M_begin_77 : decode b_M_begin 77 = .ok (.aload_n 0, 1) := by decide +kernel
theorem d_M_begin_78 : decode b_M_begin 78 = .ok (.getfield 29, 3) := by decide +kernel
theorem d_M_begin_81 : decode b_M_begin 81 = .ok (.bipush 12, 2) := by decide +kernel
theorem d_M_begin_83 : decode b_M_begin 83 = .ok (.iload_n 1, 1) := by decide +kernel
theorem d_M_begin_84 : decode b_M_begin 84 = .ok (.imul, 1) := by decide +kernel
theorem d_M_begin_85 : decode b_M_begin 85 = .ok (.iload_n 2, 1) := by decide +kernel
theorem d_M_begin_86 : decode b_M_begin 86 = .ok (.iadd, 1) := by decide +kernel
theorem d_M_begin_87 : decode b_M_begin 87 = .ok (.iaload, 1) := by decide +kernel
theorem d_M_begin_88 : decode b_M_begin 88 = .ok (.invokevirtual 84, 3) := by decide +kernel
theorem d_M_begin_91 : decode b_M_begin 91 = .ok (.ifCond .eq 7, 3) := by decide +kernel
theorem d_M_begin_94 : decode b_M_begin 94 = .ok (.iconst 1, 1) := by decide +kernel
theorem d_M_begin_95 : decode b_M_begin 95 = .ok (.goto 4, 3) := by decide +kernel
theorem d_M_begin_98 : decode b_M_begin 98 = .ok (.iconst 0, 1) := by decide +kernel
theorem d_M_begin_99 : decode b_M_begin 99 = .ok (.istore_n 3, 1) := by decide +kernel
theorem d_M_begin_100 : decode b_M_begin 100 = .ok (.iinc 4 1, 3) := by decide +kernel
theorem d_M_begin_103 : decode b_M_begin 103 = .ok (.goto (-52), 3) := by decide +kernel
theorem d_M_begin_106 : decode b_M_begin 106 = .ok (.iload_n 3, 1) := by decide +kernel
theorem d_M_begin_107 : decode b_M_begin 107 = .ok (.ifCond .ne 6, 3) := by decide +kernel
theorem d_M_begin_110 : decode b_M_begin 110 = .ok (.bipush (-2), 2) := by decide +kernel
theorem d_M_begin_112 : decode b_M_begin 112 = .ok (.ireturn, 1) := by decide +kernel
theorem d_M_begin_113 : decode b_M_begin 113 = .ok (.iinc 2 1, 3) := by decide +kernel
theorem d_M_begin_116 : decode b_M_begin 116 = .ok (.goto (-90), 3) := by decide +kernel
theorem d_M_begin_119 : decode b_M_begin 119 = .ok (.iconst 0, 1) := by decide +kernel
theorem d_M_begin_120 : decode b_M_begin 120 = .ok (.istore_n 2, 1) := by decide +kernel
theorem d_M_begin_121 : decode b_M_begin 121 = .ok (.iconst 0, 1) := by decide +kernel
theorem d_M_begin_122 : decode b_M_begin 122 = .ok (.istore_n 3, 1) := by decide +kernel
theorem d_M_begin_123 : decode b_M_begin 123 = .ok (.iload_n 3, 1) := by decide +kernel
theorem d_M_begin_124 : decode b_M_begin 124 = .ok (.bipush 60, 2) := by decide +kernel
theorem d_M_begin_126 : decode b_M_begin 126 = .ok (.if_icmp .ge 70, 3) := by decide +kernel
theorem d_M_begin_129 : decode b_M_begin 129 = .ok (.aload_n 0, 1) := by decide +kernel
theorem d_M_begin_130 : decode b_M_begin 130 = .ok (.getfield 44, 3) := by decide +kernel
theorem d_M_begin_133 : decode b_M_begin 133 = .ok (.bipush 60, 2) := by decide +kernel
theorem d_M_begin_135 : decode b_M_begin 135 = .ok (.iload_n 1, 1) := by decide +kernel
theorem d_M_begin_136 : decode b_M_begin 136 = .ok (.imul, 1) := by decide +kernel
theorem d_M_begin_137 : decode b_M_begin 137 = .ok (.iload_n 3, 1) := by decide +kernel
theorem d_M_begin_138 : decode b_M_begin 138 = .ok (.iadd, 1) := by decide +kernel
theorem d_M_begin_139 : decode b_M_begin 139 = .ok (.iload_n 3, 1) := by decide +kernel
theorem d_M_begin_140 : decode b_M_begin 140 = .ok (.aload_n 0, 1) := by decide +kernel
theorem d_M_begin_141 : decode b_M_begin 141 = .ok (.getfield 7, 3) := by decide +kernel
theorem d_M_begin_144 : decode b_M_begin 144 = .ok (.if_icmp .ge 22, 3) := by decide +kernel
theorem d_M_begin_147 : decode b_M_begin 147 = .ok (.aload_n 0, 1) := by decide +kernel
theorem d_M_begin_148 : decode b_M_begin 148 = .ok (.iload_n 1, 1) := by decide +kernel
theorem d_M_begin_149 : decode b_M_begin 149 = .ok (.iload_n 3, 1) := by decide +kernel
theorem d_M_begin_150 : decode b_M_begin 150 = .ok (.iconst 0, 1) := by decide +kernel
theorem d_M_begin_151 : decode b_M_begin 151 = .ok (.invokevirtual 95, 3) := by decide +kernel
theorem d_M_begin_154 : decode b_M_begin 154 = .ok (.ifCond .eq 12, 3) := by decide +kernel
theorem d_M_begin_157 : decode b_M_begin 157 = .ok (.aload_n 0, 1) := by decide +kernel
theorem d_M_begin_158 : decode b_M_begin 158 = .ok (.getfield 20, 3) := by decide +kernel
theorem d_M_begin_161 : decode b_M_begin 161 = .ok (.iload_n 3, 1) := by decide +kernel
theorem d_M_begin_162 : decode b_M_begin 162 = .ok (.iaload, 1) := by decide +kernel
theorem d_M_begin_163 : decode b_M_begin 163 = .ok (.goto 4, 3) := by decide +kernel
theorem d_M_begin_166 : decode b_M_begin 166 = .ok (.iconst 0, 1) := by decide +kernel
theorem d_M_begin_167 : decode b_M_begin 167 = .ok (.iastore, 1) := by decide +kernel
theorem d_M_begin_168 : decode b_M_begin 168 = .ok (.iload_n 2, 1) := by decide +kernel
theorem d_M_begin_169 : decode b_M_begin 169 = .ok (.aload_n 0, 1) := by decide +kernel
theorem d_M_begin_170 : decode b_M_begin 170 = .ok (.getfield 44, 3) := by decide +kernel
theorem d_M_begin_173 : decode b_M_begin 173 = .ok (.bipush 60, 2) := by decide +kernel
theorem d_M_begin_175 : decode b_M_begin 175 = .ok (.iload_n 1, 1) := by decide +kernel
theorem d_M_begin_176 : decode b_M_begin 176 = .ok (.imul, 1) := by decide +kernel
theorem d_M_begin_177 : decode b_M_begin 177 = .ok (.iload_n 3, 1) := by decide +kernel
theorem d_M_begin_178 : decode b_M_begin 178 = .ok (.iadd, 1) := by decide +kernel
theorem d_M_begin_179 : decode b_M_begin 179 = .ok (.iaload, 1) := by decide +kernel
theorem d_M_begin_180 : decode b_M_begin 180 = .ok (.ifCond .le 7, 3) := by decide +kernel
theorem d_M_begin_183 : decode b_M_begin 183 = .ok (.iconst 1, 1) := by decide +kernel
theorem d_M_begin_184 : decode b_M_begin 184 = .ok (.goto 4, 3) := by decide +kernel
theorem d_M_begin_187 : decode b_M_begin 187 = .ok (.iconst 0, 1) := by decide +kernel
theorem d_M_begin_188 : decode b_M_begin 188 = .ok (.iadd, 1) := by decide +kernel
theorem d_M_begin_189 : decode b_M_begin 189 = .ok (.istore_n 2, 1) := by decide +kernel
theorem d_M_begin_190 : decode b_M_begin 190 = .ok (.iinc 3 1, 3) := by decide +kernel
theorem d_M_begin_193 : decode b_M_begin 193 = .ok (.goto (-70), 3) := by decide +kernel
theorem d_M_begin_196 : decode b_M_begin 196 = .ok (.aload_n 0, 1) := by decide +kernel
theorem d_M_begin_197 : decode b_M_begin 197 = .ok (.getfield 51, 3) := by decide +kernel
theorem d_M_begin_200 : decode b_M_begin 200 = .ok (.iload_n 1, 1) := by decide +kernel
theorem d_M_begin_201 : decode b_M_begin 201 = .ok (.iconst 1, 1) := by decide +kernel
theorem d_M_begin_202 : decode b_M_begin 202 = .ok (.bastore, 1) := by decide +kernel
theorem d_M_begin_203 : decode b_M_begin 203 = .ok (.aload_n 0, 1) := by decide +kernel
theorem d_M_begin_204 : decode b_M_begin 204 = .ok (.getfield 57, 3) := by decide +kernel
theorem d_M_begin_207 : decode b_M_begin 207 = .ok (.iload_n 1, 1) := by decide +kernel
theorem d_M_begin_208 : decode b_M_begin 208 = .ok (.iconst 1, 1) := by decide +kernel
theorem d_M_begin_209 : decode b_M_begin 209 = .ok (.bastore, 1) := by decide +kernel
theorem d_M_begin_210 : decode b_M_begin 210 = .ok (.aload_n 0, 1) := by decide +kernel
theorem d_M_begin_211 : decode b_M_begin 211 = .ok (.getfield 54, 3) := by decide +kernel
theorem d_M_begin_214 : decode b_M_begin 214 = .ok (.iload_n 1, 1) := by decide +kernel
theorem d_M_begin_215 : decode b_M_begin 215 = .ok (.iconst 0, 1) := by decide +kernel
theorem d_M_begin_216 : decode b_M_begin 216 = .ok (.bastore, 1) := by decide +kernel
theorem d_M_begin_217 : decode b_M_begin 217 = .ok (.aload_n 0, 1) := by decide +kernel
theorem d_M_begin_218 : decode b_M_begin 218 = .ok (.getfield 32, 3) := by decide +kernel
theorem d_M_begin_221 : decode b_M_begin 221 = .ok (.iload_n 1, 1) := by decide +kernel
theorem d_M_begin_222 : decode b_M_begin 222 = .ok (.iconst 0, 1) := by decide +kernel
theorem d_M_begin_223 : decode b_M_begin 223 = .ok (.iastore, 1) := by decide +kernel
theorem d_M_begin_224 : decode b_M_begin 224 = .ok (.aload_n 0, 1) := by decide +kernel
theorem d_M_begin_225 : decode b_M_begin 225 = .ok (.getfield 35, 3) := by decide +kernel
theorem d_M_begin_228 : decode b_M_begin 228 = .ok (.iload_n 1, 1) := by decide +kernel
theorem d_M_begin_229 : decode b_M_begin 229 = .ok (.iconst 0, 1) := by decide +kernel
theorem d_M_begin_230 : decode b_M_begin 230 = .ok (.iastore, 1) := by decide +kernel
theorem d_M_begin_231 : decode b_M_begin 231 = .ok (.aload_n 0, 1) := by decide +kernel
theorem d_M_begin_232 : decode b_M_begin 232 = .ok (.getfield 38, 3) := by decide +kernel
theorem d_M_begin_235 : decode b_M_begin 235 = .ok (.iload_n 1, 1) := by decide +kernel
theorem d_M_begin_236 : decode b_M_begin 236 = .ok (.iconst 0, 1) := by decide +kernel
theorem d_M_begin_237 : decode b_M_begin 237 = .ok (.iastore, 1) := by decide +kernel
theorem d_M_begin_238 : decode b_M_begin 238 = .ok (.iload_n 2, 1) := by decide +kernel
theorem d_M_begin_239 : decode b_M_begin 239 = .ok (.ireturn, 1) := by decide +kernel
end
section
theorem d_M_at_0 : decode b_M_at 0 = .ok (.aload_n 0, 1) := by decide +kernel
theorem d_M_at_1 : decode b_M_at 1 = .ok (.getfield 44, 3) := by decide +kernel
theorem d_M_at_4 : decode b_M_at 4 = .ok (.bipush 60, 2) := by decide +kernel
theorem d_M_at_6 : decode b_M_at 6 = .ok (.iload_n 1, 1) := by decide +kernel
theorem d_M_at_7 : decode b_M_at 7 = .ok (.imul, 1) := by decide +kernel
theorem d_M_at_8 : decode b_M_at 8 = .ok (.iload_n 2, 1) := by decide +kernel
theorem d_M_at_9 : decode b_M_at 9 = .ok (.iadd, 1) := by decide +kernel
theorem d_M_at_10 : decode b_M_at 10 = .ok (.iaload, 1) := by decide +kernel
theorem d_M_at_11 : decode b_M_at 11 = .ok (.ireturn, 1) := by decide +kernel
theorem d_M_goal_0 : decode b_M_goal 0 = .ok (.iconst (-1), 1) := by decide +kernel
theorem d_M_goal_1 : decode b_M_goal 1 = .ok (.iload_n 0, 1) := by decide +kernel
theorem d_M_goal_2 : decode b_M_goal 2 = .ok (.isub, 1) := by decide +kernel
theorem d_M_goal_3 : decode b_M_goal 3 = .ok (.ireturn, 1) := by decide +kernel
theorem d_M_leads_0 : decode b_M_leads 0 = .ok (.aload_n 0, 1) := by decide +kernel
theorem d_M_leads_1 : decode b_M_leads 1 = .ok (.iload_n 1, 1) := by decide +kernel
theorem d_M_leads_2 : decode b_M_leads 2 = .ok (.iload_n 2, 1) := by decide +kernel
theorem d_M_leads_3 : decode b_M_leads 3 = .ok (.invokevirtual 99, 3) := by decide +kernel
theorem d_M_leads_6 : decode b_M_leads 6 = .ok (.istore_n 3, 1) := by decide +kernel
theorem d_M_leads_7 : decode b_M_leads 7 = .ok (.iconst 0, 1) := by decide +kernel
theorem d_M_leads_8 : decode b_M_leads 8 = .ok (.istore 4, 2) := by decide +kernel
theorem d_M_leads_10 : decode b_M_leads 10 = .ok (.iload_n 3, 1) := by decide +kernel
theorem d_M_leads_11 : decode b_M_leads 11 = .ok (.ifCond .ge 25, 3) := by decide +kernel
theorem d_M_leads_14 : decode b_M_leads 14 = .ok (.iload 4, 2) := by decide +kernel
theorem d_M_leads_16 : decode b_M_leads 16 = .ok (.iconst 4, 1) := by decide +kernel
theorem d_M_leads_17 : decode b_M_leads 17 = .ok (.if_icmp .ge 19, 3) := by decide +kernel
theorem d_M_leads_20 : decode b_M_leads 20 = .ok (.aload_n 0, 1) := by decide +kernel
theorem d_M_leads_21 : decode b_M_leads 21 = .ok (.iload_n 1, 1) := by decide +kernel
theorem d_M_leads_22 : decode b_M_leads 22 = .ok (.iload_n 3, 1) := by decide +kernel
theorem d_M_leads_23 : decode b_M_leads 23 = .ok (.invokestatic 102, 3) := by decide +kernel
theorem d_M_leads_26 : decode b_M_leads 26 = .ok (.invokevirtual 99, 3) := by decide +kernel
theorem d_M_leads_29 : decode b_M_leads 29 = .ok (.istore_n 3, 1) := by decide +kernel
theorem d_M_leads_30 : decode b_M_leads 30 = .ok (.iinc 4 1, 3) := by decide +kernel
theorem d_M_leads_33 : decode b_M_leads 33 = .ok (.goto (-23), 3) := by decide +kernel
theorem d_M_leads_36 : decode b_M_leads 36 = .ok (.iload_n 3, 1) := by decide +kernel
theorem d_M_leads_37 : decode b_M_leads 37 = .ok (.ifCond .le 7, 3) := by decide +kernel
theorem d_M_leads_40 : decode b_M_leads 40 = .ok (.iload_n 3, 1) := by decide +kernel
theorem d_M_leads_41 : decode b_M_leads 41 = .ok (.goto 4, 3) := by decide +kernel
theorem d_M_leads_44 : decode b_M_leads 44 = .ok (.iconst 0, 1) := by decide +kernel
theorem d_M_leads_45 : decode b_M_leads 45 = .ok (.ireturn, 1) := by decide +kernel
theorem d_M_may_0 : decode b_M_may 0 = .ok (.aload_n 0, 1) := by decide +kernel
theorem d_M_may_1 : decode b_M_may 1 = .ok (.iload_n 1, 1) := by decide +kernel
theorem d_M_may_2 : decode b_M_may 2 = .ok (.invokevirtual 88, 3) := by decide +kernel
theorem d_M_may_5 : decode b_M_may 5 = .ok (.ifCond .eq 28, 3) := by decide +kernel
theorem d_M_may_8 : decode b_M_may 8 = .ok (.aload_n 0, 1) := by decide +kernel
theorem d_M_may_9 : decode b_M_may 9 = .ok (.getfield 51, 3) := by decide +kernel
theorem d_M_may_12 : decode b_M_may 12 = .ok (.iload_n 1, 1) := by decide +kernel
theorem d_M_may_13 : decode b_M_may 13 = .ok (.baload, 1) := by decide +kernel
theorem d_M_may_14 : decode b_M_may 14 = .ok (.ifCond .eq 19, 3) := by decide +kernel
theorem d_M_may_17 : decode b_M_may 17 = .ok (.aload_n 0, 1) := by decide +kernel
theorem d_M_may_18 : decode b_M_may 18 = .ok (.iload_n 2, 1) := by decide +kernel
theorem d_M_may_19 : decode b_M_may 19 = .ok (.invokevirtual 72, 3) := by decide +kernel
theorem d_M_may_22 : decode b_M_may 22 = .ok (.ifCond .eq 11, 3) := by decide +kernel
theorem d_M_may_25 : decode b_M_may 25 = .ok (.aload_n 0, 1) := by decide +kernel
theorem d_M_may_26 : decode b_M_may 26 = .ok (.iload_n 3, 1) := by decide +kernel
theorem d_M_may_27 : decode b_M_may 27 = .ok (.invokevirtual 72, 3) := by decide +kernel
theorem d_M_may_30 : decode b_M_may 30 = .ok (.ifCond .ne 5, 3) := by decide +kernel
theorem d_M_may_33 : decode b_M_may 33 = .ok (.iconst (-1), 1) := by decide +kernel
theorem d_M_may_34 : decode b_M_may 34 = .ok (.ireturn, 1) := by decide +kernel
theorem d_M_may_35 : decode b_M_may 35 = .ok (.aload_n 0, 1) := by decide +kernel
theorem d_M_may_36 : decode b_M_may 36 = .ok (.getfield 32, 3) := by decide +kernel
theorem d_M_may_39 : decode b_M_may 39 = .ok (.iload_n 1, 1) := by decide +kernel
theorem d_M_may_40 : decode b_M_may 40 = .ok (.iaload, 1) := by decide +kernel
theorem d_M_may_41 : decode b_M_may 41 = .ok (.aload_n 0, 1) := by decide +kernel
theorem d_M_may_42 : decode b_M_may 42 = .ok (.getfield 63, 3) := by decide +kernel
theorem d_M_may_45 : decode b_M_may 45 = .ok (.if_icmp .ne 13, 3) := by decide +kernel
theorem d_M_may_48 : decode b_M_may 48 = .ok (.aload_n 0, 1) := by decide +kernel
theorem d_M_may_49 : decode b_M_may 49 = .ok (.getfield 54, 3) := by decide +kernel
theorem d_M_may_52 : decode b_M_may 52 = .ok (.iload_n 1, 1) := by decide +kernel
theorem d_M_may_53 : decode b_M_may 53 = .ok (.iconst 1, 1) := by decide +kernel
theorem d_M_may_54 : decode b_M_may 54 = .ok (.bastore, 1) := by decide +kernel
theorem d_M_may_55 : decode b_M_may 55 = .ok (.bipush (-9), 2) := by decide +kernel
theorem d_M_may_57 : decode b_M_may 57 = .ok (.ireturn, 1) := by decide +kernel
theorem d_M_may_58 : decode b_M_may 58 = .ok (.aload_n 0, 1) := by decide +kernel
theorem d_M_may_59 : decode b_M_may 59 = .ok (.getfield 32, 3) := by decide +kernel
theorem d_M_may_62 : decode b_M_may 62 = .ok (.iload_n 1, 1) := by decide +kernel
theorem d_M_may_63 : decode b_M_may 63 = .ok (.dup2, 1) := by decide +kernel
theorem d_M_may_64 : decode b_M_may 64 = .ok (.iaload, 1) := by decide +kernel
theorem d_M_may_65 : decode b_M_may 65 = .ok (.iconst 1, 1) := by decide +kernel
theorem d_M_may_66 : decode b_M_may 66 = .ok (.iadd, 1) := by decide +kernel
theorem d_M_may_67 : decode b_M_may 67 = .ok (.iastore, 1) := by decide +kernel
theorem d_M_may_68 : decode b_M_may 68 = .ok (.iconst 0, 1) := by decide +kernel
theorem d_M_may_69 : decode b_M_may 69 = .ok (.ireturn, 1) := by decide +kernel
theorem d_M_isInWay_0 : decode b_M_isInWay 0 = .ok (.iconst 0, 1) := by decide +kernel
theorem d_M_isInWay_1 : decode b_M_isInWay 1 = .ok (.istore_n 3, 1) := by decide +kernel
theorem d_M_isInWay_2 : decode b_M_isInWay 2 = .ok (.iconst 1, 1) := by decide +kernel
theorem d_M_isInWay_3 : decode b_M_isInWay 3 = .ok (.istore 4, 2) := by decide +kernel
theorem d_M_isInWay_5 : decode b_M_isInWay 5 = .ok (.iload 4, 2) := by decide +kernel
theorem d_M_isInWay_7 : decode b_M_isInWay 7 = .ok (.aload_n 0, 1) := by decide +kernel
theorem d_M_isInWay_8 : decode b_M_isInWay 8 = .ok (.getfield 7, 3) := by decide +kernel
theorem d_M_isInWay_11 : decode b_M_isInWay 11 = .ok (.if_icmp .ge 55, 3) := by decide +kernel
theorem d_M_isInWay_14 : decode b_M_isInWay 14 = .ok (.iload_n 3, 1) := by decide +kernel
theorem d_M_isInWay_15 : decode b_M_isInWay 15 = .ok (.ifCond .ne 39, 3) := by decide +kernel
theorem d_M_isInWay_18 : decode b_M_isInWay 18 = .ok (.iload 4, 2) := by decide +kernel
theorem d_M_isInWay_20 : decode b_M_isInWay 20 = .ok (.iload_n 2, 1) := by decide +kernel
theorem d_M_isInWay_21 : decode b_M_isInWay 21 = .ok (.if_icmp .eq 37, 3) := by decide +kernel
theorem d_M_isInWay_24 : decode b_M_isInWay 24 = .ok (.aload_n 0, 1) := by decide +kernel
theorem d_M_isInWay_25 : decode b_M_isInWay 25 = .ok (.iload_n 1, 1) := by decide +kernel
theorem d_M_isInWay_26 : decode b_M_isInWay 26 = .ok (.iload 4, 2) := by decide +kernel
theorem d_M_isInWay_28 : decode b_M_isInWay 28 = .ok (.invokevirtual 99, 3) := by decide +kernel
theorem d_M_isInWay_31 : decode b_M_isInWay 31 = .ok (.ifCond .eq 27, 3) := by decide +kernel
theorem d_M_isInWay_34 : decode b_M_isInWay 34 = .ok (.aload_n 0, 1) := by decide +kernel
theorem d_M_isInWay_35 : decode b_M_isInWay 35 = .ok (.iload 4, 2) := by decide +kernel
theorem d_M_isInWay_37 : decode b_M_isInWay 37 = .ok (.iload_n 2, 1) := by decide +kernel
theorem d_M_isInWay_38 : decode b_M_isInWay 38 = .ok (.invokevirtual 84, 3) := by decide +kernel
theorem d_M_isInWay_41 : decode b_M_isInWay 41 = .ok (.ifCond .ne 13, 3) := by decide +kernel
theorem d_M_isInWay_44 : decode b_M_isInWay 44 = .ok (.aload_n 0, 1) := by decide +kernel
theorem d_M_isInWay_45 : decode b_M_isInWay 45 = .ok (.iload_n 2, 1) := by decide +kernel
theorem d_M_isInWay_46 : decode b_M_isInWay 46 = .ok (.iload 4, 2) := by decide +kernel
theorem d_M_isInWay_48 : decode b_M_isInWay 48 = .ok (.invokevirtual 84, 3) := by decide +kernel
theorem d_M_isInWay_51 : decode b_M_isInWay 51 = .ok (.ifCond .eq 7, 3) := by decide +kernel
theorem d_M_isInWay_54 : decode b_M_isInWay 54 = .ok (.iconst 1, 1) := by decide +kernel
theorem d_M_isInWay_55 : decode b_M_isInWay 55 = .ok (.goto 4, 3) := by decide +kernel
theorem d_M_isInWay_58 : decode b_M_isInWay 58 = .ok (.iconst 0, 1) := by decide +kernel
theorem d_M_isInWay_59 : decode b_M_isInWay 59 = .ok (.istore_n 3, 1) := by decide +kernel
theorem d_M_isInWay_60 : decode b_M_isInWay 60 = .ok (.iinc 4 1, 3) := by decide +kernel
theorem d_M_isInWay_63 : decode b_M_isInWay 63 = .ok (.goto (-58), 3) := by decide +kernel
theorem d_M_isInWay_66 : decode b_M_isInWay 66 = .ok (.iload_n 3, 1) := by decide +kernel
theorem d_M_isInWay_67 : decode b_M_isInWay 67 = .ok (.ireturn, 1) := by decide +kernel
theorem d_M_refuse_0 : decode b_M_refuse 0 = .ok (.aload_n 0, 1) := by decide +kernel
theorem d_M_refuse_1 : decode b_M_refuse 1 = .ok (.getfield 35, 3) := by decide +kernel
theorem d_M_refuse_4 : decode b_M_refuse 4 = .ok (.iload_n 1, 1) := by decide +kernel
theorem d_M_refuse_5 : decode b_M_refuse 5 = .ok (.dup2, 1) := by decide +kernel
theorem d_M_refuse_6 : decode b_M_refuse 6 = .ok (.iaload, 1) := by decide +kernel
theorem d_M_refuse_7 : decode b_M_refuse 7 = .ok (.iconst 1, 1) := by decide +kernel
theorem d_M_refuse_8 : decode b_M_refuse 8 = .ok (.iadd, 1) := by decide +kernel
theorem d_M_refuse_9 : decode b_M_refuse 9 = .ok (.iastore, 1) := by decide +kernel
theorem d_M_refuse_10 : decode b_M_refuse 10 = .ok (.aload_n 0, 1) := by decide +kernel
theorem d_M_refuse_11 : decode b_M_refuse 11 = .ok (.getfield 54, 3) := by decide +kernel
theorem d_M_refuse_14 : decode b_M_refuse 14 = .ok (.iload_n 1, 1) := by decide +kernel
theorem d_M_refuse_15 : decode b_M_refuse 15 = .ok (.aload_n 0, 1) := by decide +kernel
theorem d_M_refuse_16 : decode b_M_refuse 16 = .ok (.getfield 54, 3) := by decide +kernel
theorem d_M_refuse_19 : decode b_M_refuse 19 = .ok (.iload_n 1, 1) := by decide +kernel
theorem d_M_refuse_20 : decode b_M_refuse 20 = .ok (.baload, 1) := by decide +kernel
theorem d_M_refuse_21 : decode b_M_refuse 21 = .ok (.ifCond .ne 10, 3) := by decide +kernel
theorem d_M_refuse_24 : decode b_M_refuse 24 = .ok (.aload_n 0, 1) := by decide +kernel
theorem d_M_refuse_25 : decode b_M_refuse 25 = .ok (.getfield 91, 3) := by decide +kernel
theorem d_M_refuse_28 : decode b_M_refuse 28 = .ok (.ifCond .eq 7, 3) := by decide +kernel
theorem d_M_refuse_31 : decode b_M_refuse 31 = .ok (.iconst 1, 1) := by decide +kernel
theorem d_M_refuse_32 : decode b_M_refuse 32 = .ok (.goto 4, 3) := by decide +kernel
theorem d_M_refuse_35 : decode b_M_refuse 35 = .ok (.iconst 0, 1) := by decide +kernel
theorem d_M_refuse_36 : decode b_M_refuse 36 = .ok (.bastore, 1) := by decide +kernel
theorem d_M_refuse_37 : decode b_M_refuse 37 = .ok (.iconst 0, 1) := by decide +kernel
theorem d_M_refuse_38 : decode b_M_refuse 38 = .ok (.ireturn, 1) := by decide +kernel
theorem d_M_open_0 : decode b_M_open 0 = .ok (.aload_n 0, 1) := by decide +kernel
theorem d_M_open_1 : decode b_M_open 1 = .ok (.iconst 0, 1) := by decide +kernel
theorem d_M_open_2 : decode b_M_open 2 = .ok (.putfield 66, 3) := by decide +kernel
theorem d_M_open_5 : decode b_M_open 5 = .ok (.aload_n 0, 1) := by decide +kernel
theorem d_M_open_6 : decode b_M_open 6 = .ok (.iload_n 1, 1) := by decide +kernel
theorem d_M_open_7 : decode b_M_open 7 = .ok (.iload_n 2, 1) := by decide +kernel
theorem d_M_open_8 : decode b_M_open 8 = .ok (.iconst 0, 1) := by decide +kernel
theorem d_M_open_9 : decode b_M_open 9 = .ok (.invokevirtual 105, 3) := by decide +kernel
theorem d_M_open_12 : decode b_M_open 12 = .ok (.istore_n 3, 1) := by decide +kernel
theorem d_M_open_13 : decode b_M_open 13 = .ok (.iload_n 3, 1) := by decide +kernel
theorem d_M_open_14 : decode b_M_open 14 = .ok (.ifCond .eq 5, 3) := by decide +kernel
theorem d_M_open_17 : decode b_M_open 17 = .ok (.iload_n 3, 1) := by decide +kernel
theorem d_M_open_18 : decode b_M_open 18 = .ok (.ireturn, 1) := by decide +kernel
theorem d_M_open_19 : decode b_M_open 19 = .ok (.aload_n 0, 1) := by decide +kernel
theorem d_M_open_20 : decode b_M_open 20 = .ok (.iload_n 1, 1) := by decide +kernel
theorem d_M_open_21 : decode b_M_open 21 = .ok (.iload_n 2, 1) := by decide +kernel
theorem d_M_open_22 : decode b_M_open 22 = .ok (.invokevirtual 109, 3) := by decide +kernel
theorem d_M_open_25 : decode b_M_open 25 = .ok (.istore 4, 2) := by decide +kernel
theorem d_M_open_27 : decode b_M_open 27 = .ok (.iload 4, 2) := by decide +kernel
theorem d_M_open_29 : decode b_M_open 29 = .ok (.ifCond .le 7, 3) := by decide +kernel
theorem d_M_open_32 : decode b_M_open 32 = .ok (.iconst 1, 1) := by decide +kernel
theorem d_M_open_33 : decode b_M_open 33 = .ok (.goto 4, 3) := by decide +kernel
theorem d_M_open_36 : decode b_M_open 36 = .ok (.iconst 0, 1) := by decide +kernel
theorem d_M_open_37 : decode b_M_open 37 = .ok (.istore 5, 2) := by decide +kernel
theorem d_M_open_39 : decode b_M_open 39 = .ok (.iconst 0, 1) := by decide +kernel
theorem d_M_open_40 : decode b_M_open 40 = .ok (.istore 6, 2) := by decide +kernel
theorem d_M_open_42 : decode b_M_open 42 = .ok (.iload 6, 2) := by decide +kernel
theorem d_M_open_44 : decode b_M_open 44 = .ok (.aload_n 0, 1) := by decide +kernel
theorem d_M_open_45 : decode b_M_open 45 = .ok (.getfield 38, 3) := by decide +kernel
theorem d_M_open_48 : decode b_M_open 48 = .ok (.iload_n 1, 1) := by decide +kernel
theorem d_M_open_49 : decode b_M_open 49 = .ok (.iaload, 1) := by decide +kernel
theorem d_M_open_50 : decode b_M_open 50 = .ok (.if_icmp .ge 37, 3) := by decide +kernel
theorem d_M_open_53 : decode b_M_open 53 = .ok (.iload 5, 2) := by decide +kernel
theorem d_M_open_55 : decode b_M_open 55 = .ok (.ifCond .ne 19, 3) := by decide +kernel
theorem d_M_open_58 : decode b_M_open 58 = .ok (.aload_n 0, 1) := by decide +kernel
theorem d_M_open_59 : decode b_M_open 59 = .ok (.getfield 41, 3) := by decide +kernel
theorem d_M_open_62 : decode b_M_open 62 = .ok (.bipush 60, 2) := by decide +kernel
theorem d_M_open_64 : decode b_M_open 64 = .ok (.iload_n 1, 1) := by decide +kernel
theorem d_M_open_65 : decode b_M_open 65 = .ok (.imul, 1) := by decide +kernel
theorem d_M_open_66 : decode b_M_open 66 = .ok (.iload 6, 2) := by decide +kernel
theorem d_M_open_68 : decode b_M_open 68 = .ok (.iadd, 1) := by decide +kernel
theorem d_M_open_69 : decode b_M_open 69 = .ok (.iaload, 1) := by decide +kernel
theorem d_M_open_70 : decode b_M_open 70 = .ok (.iload_n 2, 1) := by decide +kernel
theorem d_M_open_71 : decode b_M_open 71 = .ok (.if_icmp .ne 7, 3) := by decide +kernel
theorem d_M_open_74 : decode b_M_open 74 = .ok (.iconst 1, 1) := by decide +kernel
theorem d_M_open_75 : decode b_M_open 75 = .ok (.goto 4, 3) := by decide +kernel
theorem d_M_open_78 : decode b_M_open 78 = .ok (.iconst 0, 1) := by decide +kernel
theorem d_M_open_79 : decode b_M_open 79 = .ok (.istore 5, 2) := by decide +kernel
theorem d_M_open_81 : decode b_M_open 81 = .ok (.iinc 6 1, 3) := by decide +kernel
theorem d_M_open_84 : decode b_M_open 84 = .ok (.goto (-42), 3) := by decide +kernel
theorem d_M_open_87 : decode b_M_open 87 = .ok (.iload 5, 2) := by decide +kernel
theorem d_M_open_89 : decode b_M_open 89 = .ok (.ifCond .ne 30, 3) := by decide +kernel
theorem d_M_open_92 : decode b_M_open 92 = .ok (.aload_n 0, 1) := by decide +kernel
theorem d_M_open_93 : decode b_M_open 93 = .ok (.getfield 41, 3) := by decide +kernel
theorem d_M_open_96 : decode b_M_open 96 = .ok (.bipush 60, 2) := by decide +kernel
theorem d_M_open_98 : decode b_M_open 98 = .ok (.iload_n 1, 1) := by decide +kernel
theorem d_M_open_99 : decode b_M_open 99 = .ok (.imul, 1) := by decide +kernel
theorem d_M_open_100 : decode b_M_open 100 = .ok (.aload_n 0, 1) := by decide +kernel
theorem d_M_open_101 : decode b_M_open 101 = .ok (.getfield 38, 3) := by decide +kernel
theorem d_M_open_104 : decode b_M_open 104 = .ok (.iload_n 1, 1) := by decide +kernel
theorem d_M_open_105 : decode b_M_open 105 = .ok (.iaload, 1) := by decide +kernel
theorem d_M_open_106 : decode b_M_open 106 = .ok (.iadd, 1) := by decide +kernel
theorem d_M_open_107 : decode b_M_open 107 = .ok (.iload_n 2, 1) := by decide +kernel
theorem d_M_open_108 : decode b_M_open 108 = .ok (.iastore, 1) := by decide +kernel
theorem d_M_open_109 : decode b_M_open 109 = .ok (.aload_n 0, 1) := by decide +kernel
theorem d_M_open_110 : decode b_M_open 110 = .ok (.getfield 38, 3) := by decide +kernel
theorem d_M_open_113 : decode b_M_open 113 = .ok (.iload_n 1, 1) := by decide +kernel
theorem d_M_open_114 : decode b_M_open 114 = .ok (.dup2, 1) := by decide +kernel
theorem d_M_open_115 : decode b_M_open 115 = .ok (.iaload, 1) := by decide +kernel
theorem d_M_open_116 : decode b_M_open 116 = .ok (.iconst 1, 1) := by decide +kernel
theorem d_M_open_117 : decode b_M_open 117 = .ok (.iadd, 1) := by decide +kernel
theorem d_M_open_118 : decode b_M_open 118 = .ok (.iastore, 1) := by decide +kernel
theorem d_M_open_119 : decode b_M_open 119 = .ok (.iload 4, 2) := by decide +kernel
theorem d_M_open_121 : decode b_M_open 121 = .ok (.ireturn, 1) := by decide +kernel
theorem d_M_write_0 : decode b_M_write 0 = .ok (.aload_n 0, 1) := by decide +kernel
theorem d_M_write_1 : decode b_M_write 1 = .ok (.iconst 0, 1) := by decide +kernel
theorem d_M_write_2 : decode b_M_write 2 = .ok (.putfield 66, 3) := by decide +kernel
theorem d_M_write_5 : decode b_M_write 5 = .ok (.aload_n 0, 1) := by decide +kernel
theorem d_M_write_6 : decode b_M_write 6 = .ok (.iload_n 1, 1) := by decide +kernel
theorem d_M_write_7 : decode b_M_write 7 = .ok (.iload_n 2, 1) := by decide +kernel
theorem d_M_write_8 : decode b_M_write 8 = .ok (.iconst 0, 1) := by decide +kernel
theorem d_M_write_9 : decode b_M_write 9 = .ok (.invokevirtual 105, 3) := by decide +kernel
theorem d_M_write_12 : decode b_M_write 12 = .ok (.istore 4, 2) := by decide +kernel
theorem d_M_write_14 : decode b_M_write 14 = .ok (.iload 4, 2) := by decide +kernel
theorem d_M_write_16 : decode b_M_write 16 = .ok (.ifCond .eq 6, 3) := by decide +kernel
theorem d_M_write_19 : decode b_M_write 19 = .ok (.iload 4, 2) := by decide +kernel
theorem d_M_write_21 : decode b_M_write 21 = .ok (.ireturn, 1) := by decide +kernel
theorem d_M_write_22 : decode b_M_write 22 = .ok (.aload_n 0, 1) := by decide +kernel
theorem d_M_write_23 : decode b_M_write 23 = .ok (.iload_n 1, 1) := by decide +kernel
theorem d_M_write_24 : decode b_M_write 24 = .ok (.iload_n 2, 1) := by decide +kernel
theorem d_M_write_25 : decode b_M_write 25 = .ok (.invokevirtual 112, 3) := by decide +kernel
theorem d_M_write_28 : decode b_M_write 28 = .ok (.ifCond .eq 17, 3) := by decide +kernel
theorem d_M_write_31 : decode b_M_write 31 = .ok (.aload_n 0, 1) := by decide +kernel
theorem d_M_write_32 : decode b_M_write 32 = .ok (.iload_n 1, 1) := by decide +kernel
theorem d_M_write_33 : decode b_M_write 33 = .ok (.iload_n 2, 1) := by decide +kernel
theorem d_M_write_34 : decode b_M_write 34 = .ok (.invokevirtual 115, 3) := by decide +kernel
theorem d_M_write_37 : decode b_M_write 37 = .ok (.ifCond .ne 8, 3) := by decide +kernel
theorem d_M_write_40 : decode b_M_write 40 = .ok (.iload_n 3, 1) := by decide +kernel
theorem d_M_write_41 : decode b_M_write 41 = .ok (.iconst 1, 1) := by decide +kernel
theorem d_M_write_42 : decode b_M_write 42 = .ok (.if_icmp .ge 9, 3) := by decide +kernel
theorem d_M_write_45 : decode b_M_write 45 = .ok (.aload_n 0, 1) := by decide +kernel
theorem d_M_write_46 : decode b_M_write 46 = .ok (.iload_n 1, 1) := by decide +kernel
theorem d_M_write_47 : decode b_M_write 47 = .ok (.invokevirtual 118, 3) := by decide +kernel
theorem d_M_write_50 : decode b_M_write 50 = .ok (.ireturn, 1) := by decide +kernel
theorem d_M_write_51 : decode b_M_write 51 = .ok (.aload_n 0, 1) := by decide +kernel
theorem d_M_write_52 : decode b_M_write 52 = .ok (.getfield 44, 3) := by decide +kernel
theorem d_M_write_55 : decode b_M_write 55 = .ok (.bipush 60, 2) := by decide +kernel
theorem d_M_write_57 : decode b_M_write 57 = .ok (.iload_n 1, 1) := by decide +kernel
theorem d_M_write_58 : decode b_M_write 58 = .ok (.imul, 1) := by decide +kernel
theorem d_M_write_59 : decode b_M_write 59 = .ok (.iload_n 2, 1) := by decide +kernel
theorem d_M_write_60 : decode b_M_write 60 = .ok (.iadd, 1) := by decide +kernel
theorem d_M_write_61 : decode b_M_write 61 = .ok (.iload_n 3, 1) := by decide +kernel
theorem d_M_write_62 : decode b_M_write 62 = .ok (.iastore, 1) := by decide +kernel
theorem d_M_write_63 : decode b_M_write 63 = .ok (.iconst 1, 1) := by decide +kernel
theorem d_M_write_64 : decode b_M_write 64 = .ok (.ireturn, 1) := by decide +kernel
theorem d_M_link_0 : decode b_M_link 0 = .ok (.aload_n 0, 1) := by decide +kernel
theorem d_M_link_1 : decode b_M_link 1 = .ok (.iconst 0, 1) := by decide +kernel
theorem d_M_link_2 : decode b_M_link 2 = .ok (.putfield 66, 3) := by decide +kernel
theorem d_M_link_5 : decode b_M_link 5 = .ok (.aload_n 0, 1) := by decide +kernel
theorem d_M_link_6 : decode b_M_link 6 = .ok (.iload_n 1, 1) := by decide +kernel
theorem d_M_link_7 : decode b_M_link 7 = .ok (.iload_n 2, 1) := by decide +kernel
theorem d_M_link_8 : decode b_M_link 8 = .ok (.iload_n 3, 1) := by decide +kernel
theorem d_M_link_9 : decode b_M_link 9 = .ok (.invokevirtual 105, 3) := by decide +kernel
theorem d_M_link_12 : decode b_M_link 12 = .ok (.istore 4, 2) := by decide +kernel
theorem d_M_link_14 : decode b_M_link 14 = .ok (.iload 4, 2) := by decide +kernel
theorem d_M_link_16 : decode b_M_link 16 = .ok (.ifCond .eq 6, 3) := by decide +kernel
theorem d_M_link_19 : decode b_M_link 19 = .ok (.iload 4, 2) := by decide +kernel
theorem d_M_link_21 : decode b_M_link 21 = .ok (.ireturn, 1) := by decide +kernel
theorem d_M_link_22 : decode b_M_link 22 = .ok (.aload_n 0, 1) := by decide +kernel
theorem d_M_link_23 : decode b_M_link 23 = .ok (.iload_n 1, 1) := by decide +kernel
theorem d_M_link_24 : decode b_M_link 24 = .ok (.iload_n 2, 1) := by decide +kernel
theorem d_M_link_25 : decode b_M_link 25 = .ok (.invokevirtual 112, 3) := by decide +kernel
theorem d_M_link_28 : decode b_M_link 28 = .ok (.ifCond .eq 31, 3) := by decide +kernel
theorem d_M_link_31 : decode b_M_link 31 = .ok (.aload_n 0, 1) := by decide +kernel
theorem d_M_link_32 : decode b_M_link 32 = .ok (.iload_n 1, 1) := by decide +kernel
theorem d_M_link_33 : decode b_M_link 33 = .ok (.iload_n 2, 1) := by decide +kernel
theorem d_M_link_34 : decode b_M_link 34 = .ok (.invokevirtual 115, 3) := by decide +kernel
theorem d_M_link_37 : decode b_M_link 37 = .ok (.ifCond .ne 22, 3) := by decide +kernel
theorem d_M_link_40 : decode b_M_link 40 = .ok (.aload_n 0, 1) := by decide +kernel
theorem d_M_link_41 : decode b_M_link 41 = .ok (.iload_n 1, 1) := by decide +kernel
theorem d_M_link_42 : decode b_M_link 42 = .ok (.iload_n 3, 1) := by decide +kernel
theorem d_M_link_43 : decode b_M_link 43 = .ok (.invokevirtual 112, 3) := by decide +kernel
theorem d_M_link_46 : decode b_M_link 46 = .ok (.ifCond .ne 19, 3) := by decide +kernel
theorem d_M_link_49 : decode b_M_link 49 = .ok (.aload_n 0, 1) := by decide +kernel
theorem d_M_link_50 : decode b_M_link 50 = .ok (.iload_n 1, 1) := by decide +kernel
theorem d_M_link_51 : decode b_M_link 51 = .ok (.iload_n 3, 1) := by decide +kernel
theorem d_M_link_52 : decode b_M_link 52 = .ok (.iconst 0, 1) := by decide +kernel
theorem d_M_link_53 : decode b_M_link 53 = .ok (.invokevirtual 95, 3) := by decide +kernel
theorem d_M_link_56 : decode b_M_link 56 = .ok (.ifCond .ne 9, 3) := by decide +kernel
theorem d_M_link_59 : decode b_M_link 59 = .ok (.aload_n 0, 1) := by decide +kernel
theorem d_M_link_60 : decode b_M_link 60 = .ok (.iload_n 1, 1) := by decide +kernel
theorem d_M_link_61 : decode b_M_link 61 = .ok (.invokevirtual 118, 3) := by decide +kernel
theorem d_M_link_64 : decode b_M_link 64 = .ok (.ireturn, 1) := by decide +kernel
theorem d_M_link_65 : decode b_M_link 65 = .ok (.aload_n 0, 1) := by decide +kernel
theorem d_M_link_66 : decode b_M_link 66 = .ok (.getfield 44, 3) := by decide +kernel
theorem d_M_link_69 : decode b_M_link 69 = .ok (.bipush 60, 2) := by decide +kernel
theorem d_M_link_71 : decode b_M_link 71 = .ok (.iload_n 1, 1) := by decide +kernel
theorem d_M_link_72 : decode b_M_link 72 = .ok (.imul, 1) := by decide +kernel
theorem d_M_link_73 : decode b_M_link 73 = .ok (.iload_n 2, 1) := by decide +kernel
theorem d_M_link_74 : decode b_M_link 74 = .ok (.iadd, 1) := by decide +kernel
theorem d_M_link_75 : decode b_M_link 75 = .ok (.iconst (-1), 1) := by decide +kernel
theorem d_M_link_76 : decode b_M_link 76 = .ok (.iload_n 3, 1) := by decide +kernel
theorem d_M_link_77 : decode b_M_link 77 = .ok (.isub, 1) := by decide +kernel
theorem d_M_link_78 : decode b_M_link 78 = .ok (.iastore, 1) := by decide +kernel
theorem d_M_link_79 : decode b_M_link 79 = .ok (.iconst 1, 1) := by decide +kernel
theorem d_M_link_80 : decode b_M_link 80 = .ok (.ireturn, 1) := by decide +kernel
theorem d_M_remove_0 : decode b_M_remove 0 = .ok (.aload_n 0, 1) := by decide +kernel
theorem d_M_remove_1 : decode b_M_remove 1 = .ok (.iconst 0, 1) := by decide +kernel
theorem d_M_remove_2 : decode b_M_remove 2 = .ok (.putfield 66, 3) := by decide +kernel
theorem d_M_remove_5 : decode b_M_remove 5 = .ok (.aload_n 0, 1) := by decide +kernel
theorem d_M_remove_6 : decode b_M_remove 6 = .ok (.iload_n 1, 1) := by decide +kernel
theorem d_M_remove_7 : decode b_M_remove 7 = .ok (.iload_n 2, 1) := by decide +kernel
theorem d_M_remove_8 : decode b_M_remove 8 = .ok (.iconst 0, 1) := by decide +kernel
theorem d_M_remove_9 : decode b_M_remove 9 = .ok (.invokevirtual 105, 3) := by decide +kernel
theorem d_M_remove_12 : decode b_M_remove 12 = .ok (.istore_n 3, 1) := by decide +kernel
theorem d_M_remove_13 : decode b_M_remove 13 = .ok (.iload_n 3, 1) := by decide +kernel
theorem d_M_remove_14 : decode b_M_remove 14 = .ok (.ifCond .eq 5, 3) := by decide +kernel
theorem d_M_remove_17 : decode b_M_remove 17 = .ok (.iload_n 3, 1) := by decide +kernel
theorem d_M_remove_18 : decode b_M_remove 18 = .ok (.ireturn, 1) := by decide +kernel
theorem d_M_remove_19 : decode b_M_remove 19 = .ok (.aload_n 0, 1) := by decide +kernel
theorem d_M_remove_20 : decode b_M_remove 20 = .ok (.iload_n 1, 1) := by decide +kernel
theorem d_M_remove_21 : decode b_M_remove 21 = .ok (.iload_n 2, 1) := by decide +kernel
theorem d_M_remove_22 : decode b_M_remove 22 = .ok (.invokevirtual 112, 3) := by decide +kernel
theorem d_M_remove_25 : decode b_M_remove 25 = .ok (.ifCond .eq 12, 3) := by decide +kernel
theorem d_M_remove_28 : decode b_M_remove 28 = .ok (.aload_n 0, 1) := by decide +kernel
theorem d_M_remove_29 : decode b_M_remove 29 = .ok (.iload_n 1, 1) := by decide +kernel
theorem d_M_remove_30 : decode b_M_remove 30 = .ok (.iload_n 2, 1) := by decide +kernel
theorem d_M_remove_31 : decode b_M_remove 31 = .ok (.invokevirtual 99, 3) := by decide +kernel
theorem d_M_remove_34 : decode b_M_remove 34 = .ok (.ifCond .ne 9, 3) := by decide +kernel
theorem d_M_remove_37 : decode b_M_remove 37 = .ok (.aload_n 0, 1) := by decide +kernel
theorem d_M_remove_38 : decode b_M_remove 38 = .ok (.iload_n 1, 1) := by decide +kernel
theorem d_M_remove_39 : decode b_M_remove 39 = .ok (.invokevirtual 118, 3) := by decide +kernel
theorem d_M_remove_42 : decode b_M_remove 42 = .ok (.ireturn, 1) := by decide +kernel
theorem d_M_remove_43 : decode b_M_remove 43 = .ok (.aload_n 0, 1) := by decide +kernel
theorem d_M_remove_44 : decode b_M_remove 44 = .ok (.getfield 44, 3) := by decide +kernel
theorem d_M_remove_47 : decode b_M_remove 47 = .ok (.bipush 60, 2) := by decide +kernel
theorem d_M_remove_49 : decode b_M_remove 49 = .ok (.iload_n 1, 1) := by decide +kernel
theorem d_M_remove_50 : decode b_M_remove 50 = .ok (.imul, 1) := by decide +kernel
theorem d_M_remove_51 : decode b_M_remove 51 = .ok (.iload_n 2, 1) := by decide +kernel
theorem d_M_remove_52 : decode b_M_remove 52 = .ok (.iadd, 1) := by decide +kernel
theorem d_M_remove_53 : decode b_M_remove 53 = .ok (.iconst 0, 1) := by decide +kernel
theorem d_M_remove_54 : decode b_M_remove 54 = .ok (.iastore, 1) := by decide +kernel
theorem d_M_remove_55 : decode b_M_remove 55 = .ok (.iconst 1, 1) := by decide +kernel
theorem d_M_remove_56 : decode b_M_remove 56 = .ok (.ireturn, 1) := by decide +kernel
theorem d_M_hasUnder_0 : decode b_M_hasUnder 0 = .ok (.iconst 0, 1) := by decide +kernel
theorem d_M_hasUnder_1 : decode b_M_hasUnder 1 = .ok (.istore_n 3, 1) := by decide +kernel
theorem d_M_hasUnder_2 : decode b_M_hasUnder 2 = .ok (.iconst 1, 1) := by decide +kernel
theorem d_M_hasUnder_3 : decode b_M_hasUnder 3 = .ok (.istore 4, 2) := by decide +kernel
theorem d_M_hasUnder_5 : decode b_M_hasUnder 5 = .ok (.iload 4, 2) := by decide +kernel
theorem d_M_hasUnder_7 : decode b_M_hasUnder 7 = .ok (.aload_n 0, 1) := by decide +kernel
theorem d_M_hasUnder_8 : decode b_M_hasUnder 8 = .ok (.getfield 7, 3) := by decide +kernel
theorem d_M_hasUnder_11 : decode b_M_hasUnder 11 = .ok (.if_icmp .ge 39, 3) := by decide +kernel
theorem d_M_hasUnder_14 : decode b_M_hasUnder 14 = .ok (.iload_n 3, 1) := by decide +kernel
theorem d_M_hasUnder_15 : decode b_M_hasUnder 15 = .ok (.ifCond .ne 23, 3) := by decide +kernel
theorem d_M_hasUnder_18 : decode b_M_hasUnder 18 = .ok (.aload_n 0, 1) := by decide +kernel
theorem d_M_hasUnder_19 : decode b_M_hasUnder 19 = .ok (.iload_n 1, 1) := by decide +kernel
theorem d_M_hasUnder_20 : decode b_M_hasUnder 20 = .ok (.iload 4, 2) := by decide +kernel
theorem d_M_hasUnder_22 : decode b_M_hasUnder 22 = .ok (.invokevirtual 99, 3) := by decide +kernel
theorem d_M_hasUnder_25 : decode b_M_hasUnder 25 = .ok (.ifCond .eq 17, 3) := by decide +kernel
theorem d_M_hasUnder_28 : decode b_M_hasUnder 28 = .ok (.aload_n 0, 1) := by decide +kernel
theorem d_M_hasUnder_29 : decode b_M_hasUnder 29 = .ok (.iload 4, 2) := by decide +kernel
theorem d_M_hasUnder_31 : decode b_M_hasUnder 31 = .ok (.iload_n 2, 1) := by decide +kernel
theorem d_M_hasUnder_32 : decode b_M_hasUnder 32 = .ok (.invokevirtual 84, 3) := by decide +kernel
theorem d_M_hasUnder_35 : decode b_M_hasUnder 35 = .ok (.ifCond .eq 7, 3) := by decide +kernel
theorem d_M_hasUnder_38 : decode b_M_hasUnder 38 = .ok (.iconst 1, 1) := by decide +kernel
theorem d_M_hasUnder_39 : decode b_M_hasUnder 39 = .ok (.goto 4, 3) := by decide +kernel
theorem d_M_hasUnder_42 : decode b_M_hasUnder 42 = .ok (.iconst 0, 1) := by decide +kernel
theorem d_M_hasUnder_43 : decode b_M_hasUnder 43 = .ok (.istore_n 3, 1) := by decide +kernel
theorem d_M_hasUnder_44 : decode b_M_hasUnder 44 = .ok (.iinc 4 1, 3) := by decide +kernel
theorem d_M_hasUnder_47 : decode b_M_hasUnder 47 = .ok (.goto (-42), 3) := by decide +kernel
theorem d_M_hasUnder_50 : decode b_M_hasUnder 50 = .ok (.iload_n 3, 1) := by decide +kernel
theorem d_M_hasUnder_51 : decode b_M_hasUnder 51 = .ok (.ireturn, 1) := by decide +kernel
theorem d_M_list_0 : decode b_M_list 0 = .ok (.aload_n 0, 1) := by decide +kernel
theorem d_M_list_1 : decode b_M_list 1 = .ok (.iconst 0, 1) := by decide +kernel
theorem d_M_list_2 : decode b_M_list 2 = .ok (.putfield 66, 3) := by decide +kernel
theorem d_M_list_5 : decode b_M_list 5 = .ok (.aload_n 0, 1) := by decide +kernel
theorem d_M_list_6 : decode b_M_list 6 = .ok (.iload_n 1, 1) := by decide +kernel
theorem d_M_list_7 : decode b_M_list 7 = .ok (.iload_n 2, 1) := by decide +kernel
theorem d_M_list_8 : decode b_M_list 8 = .ok (.iconst 0, 1) := by decide +kernel
theorem d_M_list_9 : decode b_M_list 9 = .ok (.invokevirtual 105, 3) := by decide +kernel
theorem d_M_list_12 : decode b_M_list 12 = .ok (.istore 4, 2) := by decide +kernel
theorem d_M_list_14 : decode b_M_list 14 = .ok (.iload 4, 2) := by decide +kernel
theorem d_M_list_16 : decode b_M_list 16 = .ok (.ifCond .eq 6, 3) := by decide +kernel
theorem d_M_list_19 : decode b_M_list 19 = .ok (.iload 4, 2) := by decide +kernel
theorem d_M_list_21 : decode b_M_list 21 = .ok (.ireturn, 1) := by decide +kernel
theorem d_M_list_22 : decode b_M_list 22 = .ok (.iload_n 3, 1) := by decide +kernel
theorem d_M_list_23 : decode b_M_list 23 = .ok (.istore 5, 2) := by decide +kernel
theorem d_M_list_25 : decode b_M_list 25 = .ok (.bipush 65, 2) := by decide +kernel
theorem d_M_list_27 : decode b_M_list 27 = .ok (.istore 6, 2) := by decide +kernel
theorem d_M_list_29 : decode b_M_list 29 = .ok (.iload 6, 2) := by decide +kernel
theorem d_M_list_31 : decode b_M_list 31 = .ok (.bipush 122, 2) := by decide +kernel
theorem d_M_list_33 : decode b_M_list 33 = .ok (.if_icmp .gt 48, 3) := by decide +kernel
theorem d_M_list_36 : decode b_M_list 36 = .ok (.aload_n 0, 1) := by decide +kernel
theorem d_M_list_37 : decode b_M_list 37 = .ok (.iload_n 2, 1) := by decide +kernel
theorem d_M_list_38 : decode b_M_list 38 = .ok (.iload 6, 2) := by decide +kernel
theorem d_M_list_40 : decode b_M_list 40 = .ok (.invokevirtual 80, 3) := by decide +kernel
theorem d_M_list_43 : decode b_M_list 43 = .ok (.istore 7, 2) := by decide +kernel
theorem d_M_list_45 : decode b_M_list 45 = .ok (.iload 7, 2) := by decide +kernel
theorem d_M_list_47 : decode b_M_list 47 = .ok (.iconst (-1), 1) := by decide +kernel
theorem d_M_list_48 : decode b_M_list 48 = .ok (.if_icmp .eq 27, 3) := by decide +kernel
theorem d_M_list_51 : decode b_M_list 51 = .ok (.aload_n 0, 1) := by decide +kernel
theorem d_M_list_52 : decode b_M_list 52 = .ok (.iload_n 1, 1) := by decide +kernel
theorem d_M_list_53 : decode b_M_list 53 = .ok (.iload 7, 2) := by decide +kernel
theorem d_M_list_55 : decode b_M_list 55 = .ok (.invokevirtual 121, 3) := by decide +kernel
theorem d_M_list_58 : decode b_M_list 58 = .ok (.ifCond .ne 6, 3) := by decide +kernel
theorem d_M_list_61 : decode b_M_list 61 = .ok (.goto 14, 3) := by decide +kernel
theorem d_M_list_64 : decode b_M_list 64 = .ok (.iload 5, 2) := by decide +kernel
theorem d_M_list_66 : decode b_M_list 66 = .ok (.ifCond .ne 6, 3) := by decide +kernel
theorem d_M_list_69 : decode b_M_list 69 = .ok (.iload 6, 2) := by decide +kernel
theorem d_M_list_71 : decode b_M_list 71 = .ok (.ireturn, 1) := by decide +kernel
theorem d_M_list_72 : decode b_M_list 72 = .ok (.iinc 5 (-1), 3) := by decide +kernel
theorem d_M_list_75 : decode b_M_list 75 = .ok (.iinc 6 1, 3) := by decide +kernel
theorem d_M_list_78 : decode b_M_list 78 = .ok (.goto (-49), 3) := by decide +kernel
theorem d_M_list_81 : decode b_M_list 81 = .ok (.iconst 0, 1) := by decide +kernel
theorem d_M_list_82 : decode b_M_list 82 = .ok (.ireturn, 1) := by decide +kernel
theorem d_M_isLoose_0 : decode b_M_isLoose 0 = .ok (.iconst 0, 1) := by decide +kernel
theorem d_M_isLoose_1 : decode b_M_isLoose 1 = .ok (.istore_n 3, 1) := by decide +kernel
theorem d_M_isLoose_2 : decode b_M_isLoose 2 = .ok (.iconst 1, 1) := by decide +kernel
theorem d_M_isLoose_3 : decode b_M_isLoose 3 = .ok (.istore 4, 2) := by decide +kernel
theorem d_M_isLoose_5 : decode b_M_isLoose 5 = .ok (.iload 4, 2) := by decide +kernel
theorem d_M_isLoose_7 : decode b_M_isLoose 7 = .ok (.aload_n 0, 1) := by decide +kernel
theorem d_M_isLoose_8 : decode b_M_isLoose 8 = .ok (.getfield 7, 3) := by decide +kernel
theorem d_M_isLoose_11 : decode b_M_isLoose 11 = .ok (.if_icmp .ge 49, 3) := by decide +kernel
theorem d_M_isLoose_14 : decode b_M_isLoose 14 = .ok (.iload_n 3, 1) := by decide +kernel
theorem d_M_isLoose_15 : decode b_M_isLoose 15 = .ok (.ifCond .ne 33, 3) := by decide +kernel
theorem d_M_isLoose_18 : decode b_M_isLoose 18 = .ok (.aload_n 0, 1) := by decide +kernel
theorem d_M_isLoose_19 : decode b_M_isLoose 19 = .ok (.iload_n 1, 1) := by decide +kernel
theorem d_M_isLoose_20 : decode b_M_isLoose 20 = .ok (.iload 4, 2) := by decide +kernel
theorem d_M_isLoose_22 : decode b_M_isLoose 22 = .ok (.invokevirtual 99, 3) := by decide +kernel
theorem d_M_isLoose_25 : decode b_M_isLoose 25 = .ok (.ifCond .ge 27, 3) := by decide +kernel
theorem d_M_isLoose_28 : decode b_M_isLoose 28 = .ok (.aload_n 0, 1) := by decide +kernel
theorem d_M_isLoose_29 : decode b_M_isLoose 29 = .ok (.iload 4, 2) := by decide +kernel
theorem d_M_isLoose_31 : decode b_M_isLoose 31 = .ok (.iload_n 2, 1) := by decide +kernel
theorem d_M_isLoose_32 : decode b_M_isLoose 32 = .ok (.invokevirtual 84, 3) := by decide +kernel
theorem d_M_isLoose_35 : decode b_M_isLoose 35 = .ok (.ifCond .eq 17, 3) := by decide +kernel
theorem d_M_isLoose_38 : decode b_M_isLoose 38 = .ok (.aload_n 0, 1) := by decide +kernel
theorem d_M_isLoose_39 : decode b_M_isLoose 39 = .ok (.iload_n 1, 1) := by decide +kernel
theorem d_M_isLoose_40 : decode b_M_isLoose 40 = .ok (.iload 4, 2) := by decide +kernel
theorem d_M_isLoose_42 : decode b_M_isLoose 42 = .ok (.invokevirtual 109, 3) := by decide +kernel
theorem d_M_isLoose_45 : decode b_M_isLoose 45 = .ok (.ifCond .ne 7, 3) := by decide +kernel
theorem d_M_isLoose_48 : decode b_M_isLoose 48 = .ok (.iconst 1, 1) := by decide +kernel
theorem d_M_isLoose_49 : decode b_M_isLoose 49 = .ok (.goto 4, 3) := by decide +kernel
theorem d_M_isLoose_52 : decode b_M_isLoose 52 = .ok (.iconst 0, 1) := by decide +kernel
theorem d_M_isLoose_53 : decode b_M_isLoose 53 = .ok (.istore_n 3, 1) := by decide +kernel
theorem d_M_isLoose_54 : decode b_M_isLoose 54 = .ok (.iinc 4 1, 3) := by decide +kernel
theorem d_M_isLoose_57 : decode b_M_isLoose 57 = .ok (.goto (-52), 3) := by decide +kernel
theorem d_M_isLoose_60 : decode b_M_isLoose 60 = .ok (.iload_n 3, 1) := by decide +kernel
theorem d_M_isLoose_61 : decode b_M_isLoose 61 = .ok (.ireturn, 1) := by decide +kernel
end
section
theorem d_M_mark_0 : decode b_M_mark 0 = .ok (.iconst 0, 1) := by decide +kernel
theorem d_M_mark_1 : decode b_M_mark 1 = .ok (.istore_n 2, 1) := by decide +kernel
theorem d_M_mark_2 : decode b_M_mark 2 = .ok (.iload_n 2, 1) := by decide +kernel
theorem d_M_mark_3 : decode b_M_mark 3 = .ok (.bipush 60, 2) := by decide +kernel
theorem d_M_mark_5 : decode b_M_mark 5 = .ok (.if_icmp .ge 16, 3) := by decide +kernel
theorem d_M_mark_8 : decode b_M_mark 8 = .ok (.aload_n 0, 1) := by decide +kernel
theorem d_M_mark_9 : decode b_M_mark 9 = .ok (.getfield 60, 3) := by decide +kernel
theorem d_M_mark_12 : decode b_M_mark 12 = .ok (.iload_n 2, 1) := by decide +kernel
theorem d_M_mark_13 : decode b_M_mark 13 = .ok (.iconst 0, 1) := by decide +kernel
theorem d_M_mark_14 : decode b_M_mark 14 = .ok (.bastore, 1) := by decide +kernel
theorem d_M_mark_15 : decode b_M_mark 15 = .ok (.iinc 2 1, 3) := by decide +kernel
theorem d_M_mark_18 : decode b_M_mark 18 = .ok (.goto (-16), 3) := by decide +kernel
theorem d_M_mark_21 : decode b_M_mark 21 = .ok (.iconst 1, 1) := by decide +kernel
theorem d_M_mark_22 : decode b_M_mark 22 = .ok (.istore_n 2, 1) := by decide +kernel
theorem d_M_mark_23 : decode b_M_mark 23 = .ok (.iload_n 2, 1) := by decide +kernel
theorem d_M_mark_24 : decode b_M_mark 24 = .ok (.aload_n 0, 1) := by decide +kernel
theorem d_M_mark_25 : decode b_M_mark 25 = .ok (.getfield 7, 3) := by decide +kernel
theorem d_M_mark_28 : decode b_M_mark 28 = .ok (.if_icmp .ge 52, 3) := by decide +kernel
theorem d_M_mark_31 : decode b_M_mark 31 = .ok (.aload_n 0, 1) := by decide +kernel
theorem d_M_mark_32 : decode b_M_mark 32 = .ok (.iload_n 1, 1) := by decide +kernel
theorem d_M_mark_33 : decode b_M_mark 33 = .ok (.iload_n 2, 1) := by decide +kernel
theorem d_M_mark_34 : decode b_M_mark 34 = .ok (.invokevirtual 99, 3) := by decide +kernel
theorem d_M_mark_37 : decode b_M_mark 37 = .ok (.ifCond .eq 37, 3) := by decide +kernel
theorem d_M_mark_40 : decode b_M_mark 40 = .ok (.aload_n 0, 1) := by decide +kernel
theorem d_M_mark_41 : decode b_M_mark 41 = .ok (.iload_n 1, 1) := by decide +kernel
theorem d_M_mark_42 : decode b_M_mark 42 = .ok (.iload_n 2, 1) := by decide +kernel
theorem d_M_mark_43 : decode b_M_mark 43 = .ok (.iconst 1, 1) := by decide +kernel
theorem d_M_mark_44 : decode b_M_mark 44 = .ok (.invokevirtual 95, 3) := by decide +kernel
theorem d_M_mark_47 : decode b_M_mark 47 = .ok (.ifCond .eq 27, 3) := by decide +kernel
theorem d_M_mark_50 : decode b_M_mark 50 = .ok (.iload_n 2, 1) := by decide +kernel
theorem d_M_mark_51 : decode b_M_mark 51 = .ok (.istore_n 3, 1) := by decide +kernel
theorem d_M_mark_52 : decode b_M_mark 52 = .ok (.iload_n 3, 1) := by decide +kernel
theorem d_M_mark_53 : decode b_M_mark 53 = .ok (.iconst (-1), 1) := by decide +kernel
theorem d_M_mark_54 : decode b_M_mark 54 = .ok (.if_icmp .eq 20, 3) := by decide +kernel
theorem d_M_mark_57 : decode b_M_mark 57 = .ok (.aload_n 0, 1) := by decide +kernel
theorem d_M_mark_58 : decode b_M_mark 58 = .ok (.getfield 60, 3) := by decide +kernel
theorem d_M_mark_61 : decode b_M_mark 61 = .ok (.iload_n 3, 1) := by decide +kernel
theorem d_M_mark_62 : decode b_M_mark 62 = .ok (.iconst 1, 1) := by decide +kernel
theorem d_M_mark_63 : decode b_M_mark 63 = .ok (.bastore, 1) := by decide +kernel
theorem d_M_mark_64 : decode b_M_mark 64 = .ok (.aload_n 0, 1) := by decide +kernel
theorem d_M_mark_65 : decode b_M_mark 65 = .ok (.getfield 13, 3) := by decide +kernel
theorem d_M_mark_68 : decode b_M_mark 68 = .ok (.iload_n 3, 1) := by decide +kernel
theorem d_M_mark_69 : decode b_M_mark 69 = .ok (.iaload, 1) := by decide +kernel
theorem d_M_mark_70 : decode b_M_mark 70 = .ok (.istore_n 3, 1) := by decide +kernel
theorem d_M_mark_71 : decode b_M_mark 71 = .ok (.goto (-19), 3) := by decide +kernel
theorem d_M_mark_74 : decode b_M_mark 74 = .ok (.iinc 2 1, 3) := by decide +kernel
theorem d_M_mark_77 : decode b_M_mark 77 = .ok (.goto (-54), 3) := by decide +kernel
theorem d_M_mark_80 : decode b_M_mark 80 = .ok (.return_, 1) := by decide +kernel
theorem d_M_clashes_0 : decode b_M_clashes 0 = .ok (.iconst 0, 1) := by decide +kernel
theorem d_M_clashes_1 : decode b_M_clashes 1 = .ok (.istore_n 1, 1) := by decide +kernel
theorem d_M_clashes_2 : decode b_M_clashes 2 = .ok (.iconst 1, 1) := by decide +kernel
theorem d_M_clashes_3 : decode b_M_clashes 3 = .ok (.istore_n 2, 1) := by decide +kernel
theorem d_M_clashes_4 : decode b_M_clashes 4 = .ok (.iload_n 2, 1) := by decide +kernel
theorem d_M_clashes_5 : decode b_M_clashes 5 = .ok (.aload_n 0, 1) := by decide +kernel
theorem d_M_clashes_6 : decode b_M_clashes 6 = .ok (.getfield 7, 3) := by decide +kernel
theorem d_M_clashes_9 : decode b_M_clashes 9 = .ok (.if_icmp .ge 86, 3) := by decide +kernel
theorem d_M_clashes_12 : decode b_M_clashes 12 = .ok (.iconst 1, 1) := by decide +kernel
theorem d_M_clashes_13 : decode b_M_clashes 13 = .ok (.istore_n 3, 1) := by decide +kernel
theorem d_M_clashes_14 : decode b_M_clashes 14 = .ok (.iload_n 3, 1) := by decide +kernel
theorem d_M_clashes_15 : decode b_M_clashes 15 = .ok (.iload_n 2, 1) := by decide +kernel
theorem d_M_clashes_16 : decode b_M_clashes 16 = .ok (.if_icmp .ge 73, 3) := by decide +kernel
theorem d_M_clashes_19 : decode b_M_clashes 19 = .ok (.iload_n 1, 1) := by decide +kernel
theorem d_M_clashes_20 : decode b_M_clashes 20 = .ok (.ifCond .ne 57, 3) := by decide +kernel
theorem d_M_clashes_23 : decode b_M_clashes 23 = .ok (.aload_n 0, 1) := by decide +kernel
theorem d_M_clashes_24 : decode b_M_clashes 24 = .ok (.getfield 60, 3) := by decide +kernel
theorem d_M_clashes_27 : decode b_M_clashes 27 = .ok (.iload_n 2, 1) := by decide +kernel
theorem d_M_clashes_28 : decode b_M_clashes 28 = .ok (.baload, 1) := by decide +kernel
theorem d_M_clashes_29 : decode b_M_clashes 29 = .ok (.ifCond .eq 52, 3) := by decide +kernel
theorem d_M_clashes_32 : decode b_M_clashes 32 = .ok (.aload_n 0, 1) := by decide +kernel
theorem d_M_clashes_33 : decode b_M_clashes 33 = .ok (.getfield 60, 3) := by decide +kernel
theorem d_M_clashes_36 : decode b_M_clashes 36 = .ok (.iload_n 3, 1) := by decide +kernel
theorem d_M_clashes_37 : decode b_M_clashes 37 = .ok (.baload, 1) := by decide +kernel
theorem d_M_clashes_38 : decode b_M_clashes 38 = .ok (.ifCond .eq 43, 3) := by decide +kernel
theorem d_M_clashes_41 : decode b_M_clashes 41 = .ok (.aload_n 0, 1) := by decide +kernel
theorem d_M_clashes_42 : decode b_M_clashes 42 = .ok (.getfield 13, 3) := by decide +kernel
theorem d_M_clashes_45 : decode b_M_clashes 45 = .ok (.iload_n 2, 1) := by decide +kernel
theorem d_M_clashes_46 : decode b_M_clashes 46 = .ok (.iaload, 1) := by decide +kernel
theorem d_M_clashes_47 : decode b_M_clashes 47 = .ok (.aload_n 0, 1) := by decide +kernel
theorem d_M_clashes_48 : decode b_M_clashes 48 = .ok (.getfield 13, 3) := by decide +kernel
theorem d_M_clashes_51 : decode b_M_clashes 51 = .ok (.iload_n 3, 1) := by decide +kernel
theorem d_M_clashes_52 : decode b_M_clashes 52 = .ok (.iaload, 1) := by decide +kernel
theorem d_M_clashes_53 : decode b_M_clashes 53 = .ok (.if_icmp .ne 28, 3) := by decide +kernel
theorem d_M_clashes_56 : decode b_M_clashes 56 = .ok (.aload_n 0, 1) := by decide +kernel
theorem d_M_clashes_57 : decode b_M_clashes 57 = .ok (.getfield 17, 3) := by decide +kernel
theorem d_M_clashes_60 : decode b_M_clashes 60 = .ok (.iload_n 2, 1) := by decide +kernel
theorem d_M_clashes_61 : decode b_M_clashes 61 = .ok (.iaload, 1) := by decide +kernel
theorem d_M_clashes_62 : decode b_M_clashes 62 = .ok (.invokestatic 76, 3) := by decide +kernel
theorem d_M_clashes_65 : decode b_M_clashes 65 = .ok (.aload_n 0, 1) := by decide +kernel
theorem d_M_clashes_66 : decode b_M_clashes 66 = .ok (.getfield 17, 3) := by decide +kernel
theorem d_M_clashes_69 : decode b_M_clashes 69 = .ok (.iload_n 3, 1) := by decide +kernel
theorem d_M_clashes_70 : decode b_M_clashes 70 = .ok (.iaload, 1) := by decide +kernel
theorem d_M_clashes_71 : decode b_M_clashes 71 = .ok (.invokestatic 76, 3) := by decide +kernel
theorem d_M_clashes_74 : decode b_M_clashes 74 = .ok (.if_icmp .ne 7, 3) := by decide +kernel
theorem d_M_clashes_77 : decode b_M_clashes 77 = .ok (.iconst 1, 1) := by decide +kernel
theorem d_M_clashes_78 : decode b_M_clashes 78 = .ok (.goto 4, 3) := by decide +kernel
theorem d_M_clashes_81 : decode b_M_clashes 81 = .ok (.iconst 0, 1) := by decide +kernel
theorem d_M_clashes_82 : decode b_M_clashes 82 = .ok (.istore_n 1, 1) := by decide +kernel
theorem d_M_clashes_83 : decode b_M_clashes 83 = .ok (.iinc 3 1, 3) := by decide +kernel
theorem d_M_clashes_86 : decode b_M_clashes 86 = .ok (.goto (-72), 3) := by decide +kernel
theorem d_M_clashes_89 : decode b_M_clashes 89 = .ok (.iinc 2 1, 3) := by decide +kernel
theorem d_M_clashes_92 : decode b_M_clashes 92 = .ok (.goto (-88), 3) := by decide +kernel
theorem d_M_clashes_95 : decode b_M_clashes 95 = .ok (.iload_n 1, 1) := by decide +kernel
theorem d_M_clashes_96 : decode b_M_clashes 96 = .ok (.ireturn, 1) := by decide +kernel
theorem d_M_ended_0 : decode b_M_ended 0 = .ok (.iload_n 2, 1) := by decide +kernel
theorem d_M_ended_1 : decode b_M_ended 1 = .ok (.ifCond .eq 5, 3) := by decide +kernel
theorem d_M_ended_4 : decode b_M_ended 4 = .ok (.iconst 0, 1) := by decide +kernel
theorem d_M_ended_5 : decode b_M_ended 5 = .ok (.ireturn, 1) := by decide +kernel
theorem d_M_ended_6 : decode b_M_ended 6 = .ok (.aload_n 0, 1) := by decide +kernel
theorem d_M_ended_7 : decode b_M_ended 7 = .ok (.getfield 54, 3) := by decide +kernel
theorem d_M_ended_10 : decode b_M_ended 10 = .ok (.iload_n 1, 1) := by decide +kernel
theorem d_M_ended_11 : decode b_M_ended 11 = .ok (.baload, 1) := by decide +kernel
theorem d_M_ended_12 : decode b_M_ended 12 = .ok (.ifCond .eq 6, 3) := by decide +kernel
theorem d_M_ended_15 : decode b_M_ended 15 = .ok (.bipush (-2), 2) := by decide +kernel
theorem d_M_ended_17 : decode b_M_ended 17 = .ok (.ireturn, 1) := by decide +kernel
theorem d_M_ended_18 : decode b_M_ended 18 = .ok (.iconst 0, 1) := by decide +kernel
theorem d_M_ended_19 : decode b_M_ended 19 = .ok (.istore_n 3, 1) := by decide +kernel
theorem d_M_ended_20 : decode b_M_ended 20 = .ok (.iconst 0, 1) := by decide +kernel
theorem d_M_ended_21 : decode b_M_ended 21 = .ok (.istore 4, 2) := by decide +kernel
theorem d_M_ended_23 : decode b_M_ended 23 = .ok (.iload 4, 2) := by decide +kernel
theorem d_M_ended_25 : decode b_M_ended 25 = .ok (.aload_n 0, 1) := by decide +kernel
theorem d_M_ended_26 : decode b_M_ended 26 = .ok (.getfield 26, 3) := by decide +kernel
theorem d_M_ended_29 : decode b_M_ended 29 = .ok (.iload_n 1, 1) := by decide +kernel
theorem d_M_ended_30 : decode b_M_ended 30 = .ok (.iaload, 1) := by decide +kernel
theorem d_M_ended_31 : decode b_M_ended 31 = .ok (.if_icmp .ge 78, 3) := by decide +kernel
theorem d_M_ended_34 : decode b_M_ended 34 = .ok (.aload_n 0, 1) := by decide +kernel
theorem d_M_ended_35 : decode b_M_ended 35 = .ok (.getfield 47, 3) := by decide +kernel
theorem d_M_ended_38 : decode b_M_ended 38 = .ok (.bipush 12, 2) := by decide +kernel
theorem d_M_ended_40 : decode b_M_ended 40 = .ok (.iload_n 1, 1) := by decide +kernel
theorem d_M_ended_41 : decode b_M_ended 41 = .ok (.imul, 1) := by decide +kernel
theorem d_M_ended_42 : decode b_M_ended 42 = .ok (.iload 4, 2) := by decide +kernel
theorem d_M_ended_44 : decode b_M_ended 44 = .ok (.iadd, 1) := by decide +kernel
theorem d_M_ended_45 : decode b_M_ended 45 = .ok (.baload, 1) := by decide +kernel
theorem d_M_ended_46 : decode b_M_ended 46 = .ok (.ifCond .ne 6, 3) := by decide +kernel
theorem d_M_ended_49 : decode b_M_ended 49 = .ok (.goto 54, 3) := by decide +kernel
theorem d_M_ended_52 : decode b_M_ended 52 = .ok (.aload_n 0, 1) := by decide +kernel
theorem d_M_ended_53 : decode b_M_ended 53 = .ok (.getfield 29, 3) := by decide +kernel
theorem d_M_ended_56 : decode b_M_ended 56 = .ok (.bipush 12, 2) := by decide +kernel
theorem d_M_ended_58 : decode b_M_ended 58 = .ok (.iload_n 1, 1) := by decide +kernel
theorem d_M_ended_59 : decode b_M_ended 59 = .ok (.imul, 1) := by decide +kernel
theorem d_M_ended_60 : decode b_M_ended 60 = .ok (.iload 4, 2) := by decide +kernel
theorem d_M_ended_62 : decode b_M_ended 62 = .ok (.iadd, 1) := by decide +kernel
theorem d_M_ended_63 : decode b_M_ended 63 = .ok (.iaload, 1) := by decide +kernel
theorem d_M_ended_64 : decode b_M_ended 64 = .ok (.istore 5, 2) := by decide +kernel
theorem d_M_ended_66 : decode b_M_ended 66 = .ok (.aload_n 0, 1) := by decide +kernel
theorem d_M_ended_67 : decode b_M_ended 67 = .ok (.iload_n 1, 1) := by decide +kernel
theorem d_M_ended_68 : decode b_M_ended 68 = .ok (.iload 5, 2) := by decide +kernel
theorem d_M_ended_70 : decode b_M_ended 70 = .ok (.invokevirtual 121, 3) := by decide +kernel
theorem d_M_ended_73 : decode b_M_ended 73 = .ok (.ifCond .ne 10, 3) := by decide +kernel
theorem d_M_ended_76 : decode b_M_ended 76 = .ok (.bipush (-10), 2) := by decide +kernel
theorem d_M_ended_78 : decode b_M_ended 78 = .ok (.iconst 2, 1) := by decide +kernel
theorem d_M_ended_79 : decode b_M_ended 79 = .ok (.iload_n 3, 1) := by decide +kernel
theorem d_M_ended_80 : decode b_M_ended 80 = .ok (.imul, 1) := by decide +kernel
theorem d_M_ended_81 : decode b_M_ended 81 = .ok (.isub, 1) := by decide +kernel
theorem d_M_ended_82 : decode b_M_ended 82 = .ok (.ireturn, 1) := by decide +kernel
theorem d_M_ended_83 : decode b_M_ended 83 = .ok (.aload_n 0, 1) := by decide +kernel
theorem d_M_ended_84 : decode b_M_ended 84 = .ok (.iload_n 1, 1) := by decide +kernel
theorem d_M_ended_85 : decode b_M_ended 85 = .ok (.iload 5, 2) := by decide +kernel
theorem d_M_ended_87 : decode b_M_ended 87 = .ok (.invokevirtual 124, 3) := by decide +kernel
theorem d_M_ended_90 : decode b_M_ended 90 = .ok (.ifCond .eq 10, 3) := by decide +kernel
theorem d_M_ended_93 : decode b_M_ended 93 = .ok (.bipush (-11), 2) := by decide +kernel
theorem d_M_ended_95 : decode b_M_ended 95 = .ok (.iconst 2, 1) := by decide +kernel
theorem d_M_ended_96 : decode b_M_ended 96 = .ok (.iload_n 3, 1) := by decide +kernel
theorem d_M_ended_97 : decode b_M_ended 97 = .ok (.imul, 1) := by decide +kernel
theorem d_M_ended_98 : decode b_M_ended 98 = .ok (.isub, 1) := by decide +kernel
theorem d_M_ended_99 : decode b_M_ended 99 = .ok (.ireturn, 1) := by decide +kernel
theorem d_M_ended_100 : decode b_M_ended 100 = .ok (.iinc 3 1, 3) := by decide +kernel
theorem d_M_ended_103 : decode b_M_ended 103 = .ok (.iinc 4 1, 3) := by decide +kernel
theorem d_M_ended_106 : decode b_M_ended 106 = .ok (.goto (-83), 3) := by decide +kernel
theorem d_M_ended_109 : decode b_M_ended 109 = .ok (.aload_n 0, 1) := by decide +kernel
theorem d_M_ended_110 : decode b_M_ended 110 = .ok (.iload_n 1, 1) := by decide +kernel
theorem d_M_ended_111 : decode b_M_ended 111 = .ok (.invokevirtual 127, 3) := by decide +kernel
theorem d_M_ended_114 : decode b_M_ended 114 = .ok (.aload_n 0, 1) := by decide +kernel
theorem d_M_ended_115 : decode b_M_ended 115 = .ok (.invokevirtual 131, 3) := by decide +kernel
theorem d_M_ended_118 : decode b_M_ended 118 = .ok (.ifCond .eq 6, 3) := by decide +kernel
theorem d_M_ended_121 : decode b_M_ended 121 = .ok (.bipush (-3), 2) := by decide +kernel
theorem d_M_ended_123 : decode b_M_ended 123 = .ok (.ireturn, 1) := by decide +kernel
theorem d_M_ended_124 : decode b_M_ended 124 = .ok (.iconst 1, 1) := by decide +kernel
theorem d_M_ended_125 : decode b_M_ended 125 = .ok (.istore 4, 2) := by decide +kernel
theorem d_M_ended_127 : decode b_M_ended 127 = .ok (.iload 4, 2) := by decide +kernel
theorem d_M_ended_129 : decode b_M_ended 129 = .ok (.aload_n 0, 1) := by decide +kernel
theorem d_M_ended_130 : decode b_M_ended 130 = .ok (.getfield 7, 3) := by decide +kernel
theorem d_M_ended_133 : decode b_M_ended 133 = .ok (.if_icmp .ge 43, 3) := by decide +kernel
theorem d_M_ended_136 : decode b_M_ended 136 = .ok (.aload_n 0, 1) := by decide +kernel
theorem d_M_ended_137 : decode b_M_ended 137 = .ok (.getfield 60, 3) := by decide +kernel
theorem d_M_ended_140 : decode b_M_ended 140 = .ok (.iload 4, 2) := by decide +kernel
theorem d_M_ended_142 : decode b_M_ended 142 = .ok (.baload, 1) := by decide +kernel
theorem d_M_ended_143 : decode b_M_ended 143 = .ok (.ifCond .eq 27, 3) := by decide +kernel
theorem d_M_ended_146 : decode b_M_ended 146 = .ok (.aload_n 0, 1) := by decide +kernel
theorem d_M_ended_147 : decode b_M_ended 147 = .ok (.getfield 20, 3) := by decide +kernel
theorem d_M_ended_150 : decode b_M_ended 150 = .ok (.iload 4, 2) := by decide +kernel
theorem d_M_ended_152 : decode b_M_ended 152 = .ok (.iaload, 1) := by decide +kernel
theorem d_M_ended_153 : decode b_M_ended 153 = .ok (.ifCond .le 17, 3) := by decide +kernel
theorem d_M_ended_156 : decode b_M_ended 156 = .ok (.aload_n 0, 1) := by decide +kernel
theorem d_M_ended_157 : decode b_M_ended 157 = .ok (.iload_n 1, 1) := by decide +kernel
theorem d_M_ended_158 : decode b_M_ended 158 = .ok (.iload 4, 2) := by decide +kernel
theorem d_M_ended_160 : decode b_M_ended 160 = .ok (.iconst 1, 1) := by decide +kernel
theorem d_M_ended_161 : decode b_M_ended 161 = .ok (.invokevirtual 95, 3) := by decide +kernel
theorem d_M_ended_164 : decode b_M_ended 164 = .ok (.ifCond .ne 6, 3) := by decide +kernel
theorem d_M_ended_167 : decode b_M_ended 167 = .ok (.bipush (-4), 2) := by decide +kernel
theorem d_M_ended_169 : decode b_M_ended 169 = .ok (.ireturn, 1) := by decide +kernel
theorem d_M_ended_170 : decode b_M_ended 170 = .ok (.iinc 4 1, 3) := by decide +kernel
theorem d_M_ended_173 : decode b_M_ended 173 = .ok (.goto (-46), 3) := by decide +kernel
theorem d_M_ended_176 : decode b_M_ended 176 = .ok (.iconst 0, 1) := by decide +kernel
theorem d_M_ended_177 : decode b_M_ended 177 = .ok (.istore 4, 2) := by decide +kernel
theorem d_M_ended_179 : decode b_M_ended 179 = .ok (.iconst 0, 1) := by decide +kernel
theorem d_M_ended_180 : decode b_M_ended 180 = .ok (.istore 5, 2) := by decide +kernel
theorem d_M_ended_182 : decode b_M_ended 182 = .ok (.iload 5, 2) := by decide +kernel
theorem d_M_ended_184 : decode b_M_ended 184 = .ok (.aload_n 0, 1) := by decide +kernel
theorem d_M_ended_185 : decode b_M_ended 185 = .ok (.getfield 7, 3) := by decide +kernel
theorem d_M_ended_188 : decode b_M_ended 188 = .ok (.if_icmp .ge 23, 3) := by decide +kernel
theorem d_M_ended_191 : decode b_M_ended 191 = .ok (.aload_n 0, 1) := by decide +kernel
theorem d_M_ended_192 : decode b_M_ended 192 = .ok (.getfield 23, 3) := by decide +kernel
theorem d_M_ended_195 : decode b_M_ended 195 = .ok (.iload 5, 2) := by decide +kernel
theorem d_M_ended_197 : decode b_M_ended 197 = .ok (.aload_n 0, 1) := by decide +kernel
theorem d_M_ended_198 : decode b_M_ended 198 = .ok (.iload_n 1, 1) := by decide +kernel
theorem d_M_ended_199 : decode b_M_ended 199 = .ok (.iload 5, 2) := by decide +kernel
theorem d_M_ended_201 : decode b_M_ended 201 = .ok (.invokevirtual 109, 3) := by decide +kernel
theorem d_M_ended_204 : decode b_M_ended 204 = .ok (.iastore, 1) := by decide +kernel
theorem d_M_ended_205 : decode b_M_ended 205 = .ok (.iinc 5 1, 3) := by decide +kernel
theorem d_M_ended_208 : decode b_M_ended 208 = .ok (.goto (-26), 3) := by decide +kernel
theorem d_M_ended_211 : decode b_M_ended 211 = .ok (.iconst 1, 1) := by decide +kernel
theorem d_M_ended_212 : decode b_M_ended 212 = .ok (.istore 5, 2) := by decide +kernel
theorem d_M_ended_214 : decode b_M_ended 214 = .ok (.iload 5, 2) := by decide +kernel
theorem d_M_ended_216 : decode b_M_ended 216 = .ok (.aload_n 0, 1) := by decide +kernel
theorem d_M_ended_217 : decode b_M_ended 217 = .ok (.getfield 7, 3) := by decide +kernel
theorem d_M_ended_220 : decode b_M_ended 220 = .ok (.if_icmp .ge 57, 3) := by decide +kernel
theorem d_M_ended_223 : decode b_M_ended 223 = .ok (.aload_n 0, 1) := by decide +kernel
theorem d_M_ended_224 : decode b_M_ended 224 = .ok (.iload_n 1, 1) := by decide +kernel
theorem d_M_ended_225 : decode b_M_ended 225 = .ok (.iload 5, 2) := by decide +kernel
theorem d_M_ended_227 : decode b_M_ended 227 = .ok (.iconst 1, 1) := by decide +kernel
theorem d_M_ended_228 : decode b_M_ended 228 = .ok (.invokevirtual 95, 3) := by decide +kernel
theorem d_M_ended_231 : decode b_M_ended 231 = .ok (.ifCond .ne 6, 3) := by decide +kernel
theorem d_M_ended_234 : decode b_M_ended 234 = .ok (.goto 37, 3) := by decide +kernel
theorem d_M_ended_237 : decode b_M_ended 237 = .ok (.aload_n 0, 1) := by decide +kernel
theorem d_M_ended_238 : decode b_M_ended 238 = .ok (.getfield 20, 3) := by decide +kernel
theorem d_M_ended_241 : decode b_M_ended 241 = .ok (.iload 5, 2) := by decide +kernel
theorem d_M_ended_243 : decode b_M_ended 243 = .ok (.aload_n 0, 1) := by decide +kernel
theorem d_M_ended_244 : decode b_M_ended 244 = .ok (.getfield 23, 3) := by decide +kernel
theorem d_M_ended_247 : decode b_M_ended 247 = .ok (.iload 5, 2) := by decide +kernel
theorem d_M_ended_249 : decode b_M_ended 249 = .ok (.iaload, 1) := by decide +kernel
theorem d_M_ended_250 : decode b_M_ended 250 = .ok (.iastore, 1) := by decide +kernel
theorem d_M_ended_251 : decode b_M_ended 251 = .ok (.iload 4, 2) := by decide +kernel
theorem d_M_ended_253 : decode b_M_ended 253 = .ok (.aload_n 0, 1) := by decide +kernel
theorem d_M_ended_254 : decode b_M_ended 254 = .ok (.getfield 23, 3) := by decide +kernel
theorem d_M_ended_257 : decode b_M_ended 257 = .ok (.iload 5, 2) := by decide +kernel
theorem d_M_ended_259 : decode b_M_ended 259 = .ok (.iaload, 1) := by decide +kernel
theorem d_M_ended_260 : decode b_M_ended 260 = .ok (.ifCond .le 7, 3) := by decide +kernel
theorem d_M_ended_263 : decode b_M_ended 263 = .ok (.iconst 1, 1) := by decide +kernel
theorem d_M_ended_264 : decode b_M_ended 264 = .ok (.goto 4, 3) := by decide +kernel
theorem d_M_ended_267 : decode b_M_ended 267 = .ok (.iconst 0, 1) := by decide +kernel
theorem d_M_ended_268 : decode b_M_ended 268 = .ok (.iadd, 1) := by decide +kernel
theorem d_M_ended_269 : decode b_M_ended 269 = .ok (.istore 4, 2) := by decide +kernel
theorem d_M_ended_271 : decode b_M_ended 271 = .ok (.iinc 5 1, 3) := by decide +kernel
theorem d_M_ended_274 : decode b_M_ended 274 = .ok (.goto (-60), 3) := by decide +kernel
theorem d_M_ended_277 : decode b_M_ended 277 = .ok (.iload 4, 2) := by decide +kernel
theorem d_M_ended_279 : decode b_M_ended 279 = .ok (.ireturn, 1) := by decide +kernel
theorem d_M_finish_0 : decode b_M_finish 0 = .ok (.aload_n 0, 1) := by decide +kernel
theorem d_M_finish_1 : decode b_M_finish 1 = .ok (.iconst 0, 1) := by decide +kernel
theorem d_M_finish_2 : decode b_M_finish 2 = .ok (.putfield 66, 3) := by decide +kernel
theorem d_M_finish_5 : decode b_M_finish 5 = .ok (.aload_n 0, 1) := by decide +kernel
theorem d_M_finish_6 : decode b_M_finish 6 = .ok (.iload_n 1, 1) := by decide +kernel
theorem d_M_finish_7 : decode b_M_finish 7 = .ok (.invokevirtual 88, 3) := by decide +kernel
theorem d_M_finish_10 : decode b_M_finish 10 = .ok (.ifCond .eq 12, 3) := by decide +kernel
theorem d_M_finish_13 : decode b_M_finish 13 = .ok (.aload_n 0, 1) := by decide +kernel
theorem d_M_finish_14 : decode b_M_finish 14 = .ok (.getfield 51, 3) := by decide +kernel
theorem d_M_finish_17 : decode b_M_finish 17 = .ok (.iload_n 1, 1) := by decide +kernel
theorem d_M_finish_18 : decode b_M_finish 18 = .ok (.baload, 1) := by decide +kernel
theorem d_M_finish_19 : decode b_M_finish 19 = .ok (.ifCond .ne 5, 3) := by decide +kernel
theorem d_M_finish_22 : decode b_M_finish 22 = .ok (.iconst (-1), 1) := by decide +kernel
theorem d_M_finish_23 : decode b_M_finish 23 = .ok (.ireturn, 1) := by decide +kernel
theorem d_M_finish_24 : decode b_M_finish 24 = .ok (.aload_n 0, 1) := by decide +kernel
theorem d_M_finish_25 : decode b_M_finish 25 = .ok (.iload_n 1, 1) := by decide +kernel
theorem d_M_finish_26 : decode b_M_finish 26 = .ok (.iload_n 2, 1) := by decide +kernel
theorem d_M_finish_27 : decode b_M_finish 27 = .ok (.invokevirtual 135, 3) := by decide +kernel
theorem d_M_finish_30 : decode b_M_finish 30 = .ok (.istore_n 3, 1) := by decide +kernel
theorem d_M_finish_31 : decode b_M_finish 31 = .ok (.aload_n 0, 1) := by decide +kernel
theorem d_M_finish_32 : decode b_M_finish 32 = .ok (.getfield 51, 3) := by decide +kernel
theorem d_M_finish_35 : decode b_M_finish 35 = .ok (.iload_n 1, 1) := by decide +kernel
theorem d_M_finish_36 : decode b_M_finish 36 = .ok (.iconst 0, 1) := by decide +kernel
theorem d_M_finish_37 : decode b_M_finish 37 = .ok (.bastore, 1) := by decide +kernel
theorem d_M_finish_38 : decode b_M_finish 38 = .ok (.iload_n 3, 1) := by decide +kernel
theorem d_M_finish_39 : decode b_M_finish 39 = .ok (.ireturn, 1) := by decide +kernel
theorem d_M_tried_0 : decode b_M_tried 0 = .ok (.aload_n 0, 1) := by decide +kernel
theorem d_M_tried_1 : decode b_M_tried 1 = .ok (.iconst 0, 1) := by decide +kernel
theorem d_M_tried_2 : decode b_M_tried 2 = .ok (.putfield 66, 3) := by decide +kernel
theorem d_M_tried_5 : decode b_M_tried 5 = .ok (.aload_n 0, 1) := by decide +kernel
theorem d_M_tried_6 : decode b_M_tried 6 = .ok (.iload_n 1, 1) := by decide +kernel
theorem d_M_tried_7 : decode b_M_tried 7 = .ok (.invokevirtual 88, 3) := by decide +kernel
theorem d_M_tried_10 : decode b_M_tried 10 = .ok (.ifCond .eq 31, 3) := by decide +kernel
theorem d_M_tried_13 : decode b_M_tried 13 = .ok (.iload_n 2, 1) := by decide +kernel
theorem d_M_tried_14 : decode b_M_tried 14 = .ok (.ifCond .lt 27, 3) := by decide +kernel
theorem d_M_tried_17 : decode b_M_tried 17 = .ok (.iload_n 2, 1) := by decide +kernel
theorem d_M_tried_18 : decode b_M_tried 18 = .ok (.aload_n 0, 1) := by decide +kernel
theorem d_M_tried_19 : decode b_M_tried 19 = .ok (.getfield 38, 3) := by decide +kernel
theorem d_M_tried_22 : decode b_M_tried 22 = .ok (.iload_n 1, 1) := by decide +kernel
theorem d_M_tried_23 : decode b_M_tried 23 = .ok (.iaload, 1) := by decide +kernel
theorem d_M_tried_24 : decode b_M_tried 24 = .ok (.if_icmp .ge 17, 3) := by decide +kernel
theorem d_M_tried_27 : decode b_M_tried 27 = .ok (.aload_n 0, 1) := by decide +kernel
theorem d_M_tried_28 : decode b_M_tried 28 = .ok (.getfield 41, 3) := by decide +kernel
theorem d_M_tried_31 : decode b_M_tried 31 = .ok (.bipush 60, 2) := by decide +kernel
theorem d_M_tried_33 : decode b_M_tried 33 = .ok (.iload_n 1, 1) := by decide +kernel
theorem d_M_tried_34 : decode b_M_tried 34 = .ok (.imul, 1) := by decide +kernel
theorem d_M_tried_35 : decode b_M_tried 35 = .ok (.iload_n 2, 1) := by decide +kernel
theorem d_M_tried_36 : decode b_M_tried 36 = .ok (.iadd, 1) := by decide +kernel
theorem d_M_tried_37 : decode b_M_tried 37 = .ok (.iaload, 1) := by decide +kernel
theorem d_M_tried_38 : decode b_M_tried 38 = .ok (.goto 4, 3) := by decide +kernel
theorem d_M_tried_41 : decode b_M_tried 41 = .ok (.iconst (-1), 1) := by decide +kernel
theorem d_M_tried_42 : decode b_M_tried 42 = .ok (.ireturn, 1) := by decide +kernel
theorem d_M_about_0 : decode b_M_about 0 = .ok (.aload_n 0, 1) := by decide +kernel
theorem d_M_about_1 : decode b_M_about 1 = .ok (.iconst 0, 1) := by decide +kernel
theorem d_M_about_2 : decode b_M_about 2 = .ok (.putfield 66, 3) := by decide +kernel
theorem d_M_about_5 : decode b_M_about 5 = .ok (.aload_n 0, 1) := by decide +kernel
theorem d_M_about_6 : decode b_M_about 6 = .ok (.iload_n 1, 1) := by decide +kernel
theorem d_M_about_7 : decode b_M_about 7 = .ok (.invokevirtual 88, 3) := by decide +kernel
theorem d_M_about_10 : decode b_M_about 10 = .ok (.ifCond .ne 5, 3) := by decide +kernel
theorem d_M_about_13 : decode b_M_about 13 = .ok (.iconst (-1), 1) := by decide +kernel
theorem d_M_about_14 : decode b_M_about 14 = .ok (.ireturn, 1) := by decide +kernel
theorem d_M_about_15 : decode b_M_about 15 = .ok (.iload_n 2, 1) := by decide +kernel
theorem d_M_about_16 : decode b_M_about 16 = .ok (.ifCond .ne 18, 3) := by decide +kernel
theorem d_M_about_19 : decode b_M_about 19 = .ok (.aload_n 0, 1) := by decide +kernel
theorem d_M_about_20 : decode b_M_about 20 = .ok (.getfield 51, 3) := by decide +kernel
theorem d_M_about_23 : decode b_M_about 23 = .ok (.iload_n 1, 1) := by decide +kernel
theorem d_M_about_24 : decode b_M_about 24 = .ok (.baload, 1) := by decide +kernel
theorem d_M_about_25 : decode b_M_about 25 = .ok (.ifCond .eq 7, 3) := by decide +kernel
theorem d_M_about_28 : decode b_M_about 28 = .ok (.iconst 1, 1) := by decide +kernel
theorem d_M_about_29 : decode b_M_about 29 = .ok (.goto 4, 3) := by decide +kernel
theorem d_M_about_32 : decode b_M_about 32 = .ok (.iconst 0, 1) := by decide +kernel
theorem d_M_about_33 : decode b_M_about 33 = .ok (.ireturn, 1) := by decide +kernel
theorem d_M_about_34 : decode b_M_about 34 = .ok (.aload_n 0, 1) := by decide +kernel
theorem d_M_about_35 : decode b_M_about 35 = .ok (.getfield 57, 3) := by decide +kernel
theorem d_M_about_38 : decode b_M_about 38 = .ok (.iload_n 1, 1) := by decide +kernel
theorem d_M_about_39 : decode b_M_about 39 = .ok (.baload, 1) := by decide +kernel
theorem d_M_about_40 : decode b_M_about 40 = .ok (.ifCond .ne 5, 3) := by decide +kernel
theorem d_M_about_43 : decode b_M_about 43 = .ok (.iconst (-1), 1) := by decide +kernel
theorem d_M_about_44 : decode b_M_about 44 = .ok (.ireturn, 1) := by decide +kernel
theorem d_M_about_45 : decode b_M_about 45 = .ok (.iload_n 2, 1) := by decide +kernel
theorem d_M_about_46 : decode b_M_about 46 = .ok (.iconst 1, 1) := by decide +kernel
theorem d_M_about_47 : decode b_M_about 47 = .ok (.if_icmp .ne 12, 3) := by decide +kernel
theorem d_M_about_50 : decode b_M_about 50 = .ok (.aload_n 0, 1) := by decide +kernel
theorem d_M_about_51 : decode b_M_about 51 = .ok (.getfield 32, 3) := by decide +kernel
theorem d_M_about_54 : decode b_M_about 54 = .ok (.iload_n 1, 1) := by decide +kernel
theorem d_M_about_55 : decode b_M_about 55 = .ok (.iaload, 1) := by decide +kernel
theorem d_M_about_56 : decode b_M_about 56 = .ok (.goto 40, 3) := by decide +kernel
theorem d_M_about_59 : decode b_M_about 59 = .ok (.iload_n 2, 1) := by decide +kernel
theorem d_M_about_60 : decode b_M_about 60 = .ok (.iconst 2, 1) := by decide +kernel
theorem d_M_about_61 : decode b_M_about 61 = .ok (.if_icmp .ne 12, 3) := by decide +kernel
theorem d_M_about_64 : decode b_M_about 64 = .ok (.aload_n 0, 1) := by decide +kernel
theorem d_M_about_65 : decode b_M_about 65 = .ok (.getfield 35, 3) := by decide +kernel
theorem d_M_about_68 : decode b_M_about 68 = .ok (.iload_n 1, 1) := by decide +kernel
theorem d_M_about_69 : decode b_M_about 69 = .ok (.iaload, 1) := by decide +kernel
theorem d_M_about_70 : decode b_M_about 70 = .ok (.goto 26, 3) := by decide +kernel
theorem d_M_about_73 : decode b_M_about 73 = .ok (.iload_n 2, 1) := by decide +kernel
theorem d_M_about_74 : decode b_M_about 74 = .ok (.iconst 3, 1) := by decide +kernel
theorem d_M_about_75 : decode b_M_about 75 = .ok (.if_icmp .ne 20, 3) := by decide +kernel
theorem d_M_about_78 : decode b_M_about 78 = .ok (.aload_n 0, 1) := by decide +kernel
theorem d_M_about_79 : decode b_M_about 79 = .ok (.getfield 54, 3) := by decide +kernel
theorem d_M_about_82 : decode b_M_about 82 = .ok (.iload_n 1, 1) := by decide +kernel
theorem d_M_about_83 : decode b_M_about 83 = .ok (.baload, 1) := by decide +kernel
theorem d_M_about_84 : decode b_M_about 84 = .ok (.ifCond .eq 7, 3) := by decide +kernel
theorem d_M_about_87 : decode b_M_about 87 = .ok (.iconst 1, 1) := by decide +kernel
theorem d_M_about_88 : decode b_M_about 88 = .ok (.goto 8, 3) := by decide +kernel
theorem d_M_about_91 : decode b_M_about 91 = .ok (.iconst 0, 1) := by decide +kernel
theorem d_M_about_92 : decode b_M_about 92 = .ok (.goto 4, 3) := by decide +kernel
theorem d_M_about_95 : decode b_M_about 95 = .ok (.iconst (-1), 1) := by decide +kernel
theorem d_M_about_96 : decode b_M_about 96 = .ok (.ireturn, 1) := by decide +kernel
theorem d_A_init_0 : decode b_A_init 0 = .ok (.aload_n 0, 1) := by decide +kernel
theorem d_A_init_1 : decode b_A_init 1 = .ok (.invokespecial 3, 3) := by decide +kernel
theorem d_A_init_4 : decode b_A_init 4 = .ok (.aload_n 0, 1) := by decide +kernel
theorem d_A_init_5 : decode b_A_init 5 = .ok (.bipush 12, 2) := by decide +kernel
theorem d_A_init_7 : decode b_A_init 7 = .ok (.newarray .int, 2) := by decide +kernel
theorem d_A_init_9 : decode b_A_init 9 = .ok (.putfield 9, 3) := by decide +kernel
theorem d_A_init_12 : decode b_A_init 12 = .ok (.aload_n 0, 1) := by decide +kernel
theorem d_A_init_13 : decode b_A_init 13 = .ok (.bipush 12, 2) := by decide +kernel
theorem d_A_init_15 : decode b_A_init 15 = .ok (.newarray .boolean, 2) := by decide +kernel
theorem d_A_init_17 : decode b_A_init 17 = .ok (.putfield 15, 3) := by decide +kernel
theorem d_A_init_20 : decode b_A_init 20 = .ok (.aload_n 0, 1) := by decide +kernel
theorem d_A_init_21 : decode b_A_init 21 = .ok (.new 19, 3) := by decide +kernel
theorem d_A_init_24 : decode b_A_init 24 = .ok (.dup, 1) := by decide +kernel
theorem d_A_init_25 : decode b_A_init 25 = .ok (.invokespecial 21, 3) := by decide +kernel
theorem d_A_init_28 : decode b_A_init 28 = .ok (.putfield 22, 3) := by decide +kernel
theorem d_A_init_31 : decode b_A_init 31 = .ok (.aload_n 0, 1) := by decide +kernel
theorem d_A_init_32 : decode b_A_init 32 = .ok (.bipush 60, 2) := by decide +kernel
theorem d_A_init_34 : decode b_A_init 34 = .ok (.newarray .int, 2) := by decide +kernel
theorem d_A_init_36 : decode b_A_init 36 = .ok (.putfield 26, 3) := by decide +kernel
theorem d_A_init_39 : decode b_A_init 39 = .ok (.return_, 1) := by decide +kernel
theorem d_A_addDeclared_0 : decode b_A_addDeclared 0 = .ok (.aload_n 0, 1) := by decide +kernel
theorem d_A_addDeclared_1 : decode b_A_addDeclared 1 = .ok (.getfield 29, 3) := by decide +kernel
theorem d_A_addDeclared_4 : decode b_A_addDeclared 4 = .ok (.bipush 12, 2) := by decide +kernel
theorem d_A_addDeclared_6 : decode b_A_addDeclared 6 = .ok (.if_icmp .ge 33, 3) := by decide +kernel
theorem d_A_addDeclared_9 : decode b_A_addDeclared 9 = .ok (.aload_n 0, 1) := by decide +kernel
theorem d_A_addDeclared_10 : decode b_A_addDeclared 10 = .ok (.getfield 9, 3) := by decide +kernel
theorem d_A_addDeclared_13 : decode b_A_addDeclared 13 = .ok (.aload_n 0, 1) := by decide +kernel
theorem d_A_addDeclared_14 : decode b_A_addDeclared 14 = .ok (.getfield 29, 3) := by decide +kernel
theorem d_A_addDeclared_17 : decode b_A_addDeclared 17 = .ok (.iload_n 1, 1) := by decide +kernel
theorem d_A_addDeclared_18 : decode b_A_addDeclared 18 = .ok (.iastore, 1) := by decide +kernel
theorem d_A_addDeclared_19 : decode b_A_addDeclared 19 = .ok (.aload_n 0, 1) := by decide +kernel
theorem d_A_addDeclared_20 : decode b_A_addDeclared 20 = .ok (.getfield 15, 3) := by decide +kernel
theorem d_A_addDeclared_23 : decode b_A_addDeclared 23 = .ok (.aload_n 0, 1) := by decide +kernel
theorem d_A_addDeclared_24 : decode b_A_addDeclared 24 = .ok (.getfield 29, 3) := by decide +kernel
theorem d_A_addDeclared_27 : decode b_A_addDeclared 27 = .ok (.iload_n 2, 1) := by decide +kernel
theorem d_A_addDeclared_28 : decode b_A_addDeclared 28 = .ok (.bastore, 1) := by decide +kernel
theorem d_A_addDeclared_29 : decode b_A_addDeclared 29 = .ok (.aload_n 0, 1) := by decide +kernel
theorem d_A_addDeclared_30 : decode b_A_addDeclared 30 = .ok (.dup, 1) := by decide +kernel
theorem d_A_addDeclared_31 : decode b_A_addDeclared 31 = .ok (.getfield 29, 3) := by decide +kernel
theorem d_A_addDeclared_34 : decode b_A_addDeclared 34 = .ok (.iconst 1, 1) := by decide +kernel
theorem d_A_addDeclared_35 : decode b_A_addDeclared 35 = .ok (.iadd, 1) := by decide +kernel
theorem d_A_addDeclared_36 : decode b_A_addDeclared 36 = .ok (.putfield 29, 3) := by decide +kernel
theorem d_A_addDeclared_39 : decode b_A_addDeclared 39 = .ok (.return_, 1) := by decide +kernel
theorem d_A_startWorld_0 : decode b_A_startWorld 0 = .ok (.aload_n 0, 1) := by decide +kernel
theorem d_A_startWorld_1 : decode b_A_startWorld 1 = .ok (.iconst 1, 1) := by decide +kernel
theorem d_A_startWorld_2 : decode b_A_startWorld 2 = .ok (.putfield 33, 3) := by decide +kernel
theorem d_A_startWorld_5 : decode b_A_startWorld 5 = .ok (.aload_n 0, 1) := by decide +kernel
theorem d_A_startWorld_6 : decode b_A_startWorld 6 = .ok (.iconst 1, 1) := by decide +kernel
theorem d_A_startWorld_7 : decode b_A_startWorld 7 = .ok (.putfield 37, 3) := by decide +kernel
theorem d_A_startWorld_10 : decode b_A_startWorld 10 = .ok (.aload_n 0, 1) := by decide +kernel
theorem d_A_startWorld_11 : decode b_A_startWorld 11 = .ok (.iconst 0, 1) := by decide +kernel
theorem d_A_startWorld_12 : decode b_A_startWorld 12 = .ok (.putfield 40, 3) := by decide +kernel
theorem d_A_startWorld_15 : decode b_A_startWorld 15 = .ok (.aload_n 0, 1) := by decide +kernel
theorem d_A_startWorld_16 : decode b_A_startWorld 16 = .ok (.iconst 0, 1) := by decide +kernel
theorem d_A_startWorld_17 : decode b_A_startWorld 17 = .ok (.putfield 43, 3) := by decide +kernel
theorem d_A_startWorld_20 : decode b_A_startWorld 20 = .ok (.aload_n 0, 1) := by decide +kernel
theorem d_A_startWorld_21 : decode b_A_startWorld 21 = .ok (.iconst 0, 1) := by decide +kernel
theorem d_A_startWorld_22 : decode b_A_startWorld 22 = .ok (.putfield 46, 3) := by decide +kernel
theorem d_A_startWorld_25 : decode b_A_startWorld 25 = .ok (.aload_n 0, 1) := by decide +kernel
theorem d_A_startWorld_26 : decode b_A_startWorld 26 = .ok (.iconst 0, 1) := by decide +kernel
theorem d_A_startWorld_27 : decode b_A_startWorld 27 = .ok (.putfield 49, 3) := by decide +kernel
theorem d_A_startWorld_30 : decode b_A_startWorld 30 = .ok (.aload_n 0, 1) := by decide +kernel
theorem d_A_startWorld_31 : decode b_A_startWorld 31 = .ok (.lconst 0, 1) := by decide +kernel
theorem d_A_startWorld_32 : decode b_A_startWorld 32 = .ok (.putfield 52, 3) := by decide +kernel
theorem d_A_startWorld_35 : decode b_A_startWorld 35 = .ok (.return_, 1) := by decide +kernel
theorem d_A_startOperation_0 : decode b_A_startOperation 0 = .ok (.aload_n 0, 1) := by decide +kernel
theorem d_A_startOperation_1 : decode b_A_startOperation 1 = .ok (.getfield 43, 3) := by decide +kernel
theorem d_A_startOperation_4 : decode b_A_startOperation 4 = .ok (.iload_n 1, 1) := by decide +kernel
theorem d_A_startOperation_5 : decode b_A_startOperation 5 = .ok (.if_icmp .lt 10, 3) := by decide +kernel
theorem d_A_startOperation_8 : decode b_A_startOperation 8 = .ok (.aload_n 0, 1) := by decide +kernel
theorem d_A_startOperation_9 : decode b_A_startOperation 9 = .ok (.iconst 1, 1) := by decide +kernel
theorem d_A_startOperation_10 : decode b_A_startOperation 10 = .ok (.putfield 40, 3) := by decide +kernel
theorem d_A_startOperation_13 : decode b_A_startOperation 13 = .ok (.iconst 0, 1) := by decide +kernel
theorem d_A_startOperation_14 : decode b_A_startOperation 14 = .ok (.ireturn, 1) := by decide +kernel
theorem d_A_startOperation_15 : decode b_A_startOperation 15 = .ok (.aload_n 0, 1) := by decide +kernel
theorem d_A_startOperation_16 : decode b_A_startOperation 16 = .ok (.dup, 1) := by decide +kernel
theorem d_A_startOperation_17 : decode b_A_startOperation 17 = .ok (.getfield 43, 3) := by decide +kernel
theorem d_A_startOperation_20 : decode b_A_startOperation 20 = .ok (.iconst 1, 1) := by decide +kernel
theorem d_A_startOperation_21 : decode b_A_startOperation 21 = .ok (.iadd, 1) := by decide +kernel
theorem d_A_startOperation_22 : decode b_A_startOperation 22 = .ok (.putfield 43, 3) := by decide +kernel
theorem d_A_startOperation_25 : decode b_A_startOperation 25 = .ok (.iconst 1, 1) := by decide +kernel
theorem d_A_startOperation_26 : decode b_A_startOperation 26 = .ok (.ireturn, 1) := by decide +kernel
theorem d_A_noteTried_0 : decode b_A_noteTried 0 = .ok (.aload_n 0, 1) := by decide +kernel
theorem d_A_noteTried_1 : decode b_A_noteTried 1 = .ok (.getfield 49, 3) := by decide +kernel
theorem d_A_noteTried_4 : decode b_A_noteTried 4 = .ok (.bipush 60, 2) := by decide +kernel
theorem d_A_noteTried_6 : decode b_A_noteTried 6 = .ok (.if_icmp .ge 47, 3) := by decide +kernel
theorem d_A_noteTried_9 : decode b_A_noteTried 9 = .ok (.aload_n 0, 1) := by decide +kernel
theorem d_A_noteTried_10 : decode b_A_noteTried 10 = .ok (.getfield 52, 3) := by decide +kernel
theorem d_A_noteTried_13 : decode b_A_noteTried 13 = .ok (.iload_n 1, 1) := by decide +kernel
theorem d_A_noteTried_14 : decode b_A_noteTried 14 = .ok (.invokestatic 56, 3) := by decide +kernel
theorem d_A_noteTried_17 : decode b_A_noteTried 17 = .ok (.ifCond .ne 36, 3) := by decide +kernel
theorem d_A_noteTried_20 : decode b_A_noteTried 20 = .ok (.aload_n 0, 1) := by decide +kernel
theorem d_A_noteTried_21 : decode b_A_noteTried 21 = .ok (.dup, 1) := by decide +kernel
theorem d_A_noteTried_22 : decode b_A_noteTried 22 = .ok (.getfield 52, 3) := by decide +kernel
theorem d_A_noteTried_25 : decode b_A_noteTried 25 = .ok (.iload_n 1, 1) := by decide +kernel
theorem d_A_noteTried_26 : decode b_A_noteTried 26 = .ok (.invokestatic 60, 3) := by decide +kernel
theorem d_A_noteTried_29 : decode b_A_noteTried 29 = .ok (.lor, 1) := by decide +kernel
theorem d_A_noteTried_30 : decode b_A_noteTried 30 = .ok (.putfield 52, 3) := by decide +kernel
theorem d_A_noteTried_33 : decode b_A_noteTried 33 = .ok (.aload_n 0, 1) := by decide +kernel
theorem d_A_noteTried_34 : decode b_A_noteTried 34 = .ok (.getfield 26, 3) := by decide +kernel
theorem d_A_noteTried_37 : decode b_A_noteTried 37 = .ok (.aload_n 0, 1) := by decide +kernel
theorem d_A_noteTried_38 : decode b_A_noteTried 38 = .ok (.getfield 49, 3) := by decide +kernel
theorem d_A_noteTried_41 : decode b_A_noteTried 41 = .ok (.iload_n 1, 1) := by decide +kernel
theorem d_A_noteTried_42 : decode b_A_noteTried 42 = .ok (.iastore, 1) := by decide +kernel
theorem d_A_noteTried_43 : decode b_A_noteTried 43 = .ok (.aload_n 0, 1) := by decide +kernel
theorem d_A_noteTried_44 : decode b_A_noteTried 44 = .ok (.dup, 1) := by decide +kernel
theorem d_A_noteTried_45 : decode b_A_noteTried 45 = .ok (.getfield 49, 3) := by decide +kernel
theorem d_A_noteTried_48 : decode b_A_noteTried 48 = .ok (.iconst 1, 1) := by decide +kernel
theorem d_A_noteTried_49 : decode b_A_noteTried 49 = .ok (.iadd, 1) := by decide +kernel
theorem d_A_noteTried_50 : decode b_A_noteTried 50 = .ok (.putfield 49, 3) := by decide +kernel
theorem d_A_noteTried_53 : decode b_A_noteTried 53 = .ok (.return_, 1) := by decide +kernel
end
section
theorem d_P_init_0 : decode b_P_init 0 = .ok (.aload_n 0, 1) := by decide +kernel
theorem d_P_init_1 : decode b_P_init 1 = .ok (.invokespecial 3, 3) := by decide +kernel
theorem d_P_init_4 : decode b_P_init 4 = .ok (.aload_n 0, 1) := by decide +kernel
theorem d_P_init_5 : decode b_P_init 5 = .ok (.bipush 60, 2) := by decide +kernel
theorem d_P_init_7 : decode b_P_init 7 = .ok (.newarray .int, 2) := by decide +kernel
theorem d_P_init_9 : decode b_P_init 9 = .ok (.putfield 9, 3) := by decide +kernel
theorem d_P_init_12 : decode b_P_init 12 = .ok (.aload_n 0, 1) := by decide +kernel
theorem d_P_init_13 : decode b_P_init 13 = .ok (.bipush 60, 2) := by decide +kernel
theorem d_P_init_15 : decode b_P_init 15 = .ok (.newarray .char, 2) := by decide +kernel
theorem d_P_init_17 : decode b_P_init 17 = .ok (.putfield 15, 3) := by decide +kernel
theorem d_P_init_20 : decode b_P_init 20 = .ok (.aload_n 0, 1) := by decide +kernel
theorem d_P_init_21 : decode b_P_init 21 = .ok (.bipush 60, 2) := by decide +kernel
theorem d_P_init_23 : decode b_P_init 23 = .ok (.newarray .long, 2) := by decide +kernel
theorem d_P_init_25 : decode b_P_init 25 = .ok (.putfield 19, 3) := by decide +kernel
theorem d_P_init_28 : decode b_P_init 28 = .ok (.aload_n 0, 1) := by decide +kernel
theorem d_P_init_29 : decode b_P_init 29 = .ok (.bipush 60, 2) := by decide +kernel
theorem d_P_init_31 : decode b_P_init 31 = .ok (.newarray .long, 2) := by decide +kernel
theorem d_P_init_33 : decode b_P_init 33 = .ok (.putfield 23, 3) := by decide +kernel
theorem d_P_init_36 : decode b_P_init 36 = .ok (.aload_n 0, 1) := by decide +kernel
theorem d_P_init_37 : decode b_P_init 37 = .ok (.iconst 1, 1) := by decide +kernel
theorem d_P_init_38 : decode b_P_init 38 = .ok (.putfield 26, 3) := by decide +kernel
theorem d_P_init_41 : decode b_P_init 41 = .ok (.aload_n 0, 1) := by decide +kernel
theorem d_P_init_42 : decode b_P_init 42 = .ok (.getfield 9, 3) := by decide +kernel
theorem d_P_init_45 : decode b_P_init 45 = .ok (.iconst 0, 1) := by decide +kernel
theorem d_P_init_46 : decode b_P_init 46 = .ok (.iconst (-1), 1) := by decide +kernel
theorem d_P_init_47 : decode b_P_init 47 = .ok (.iastore, 1) := by decide +kernel
theorem d_P_init_48 : decode b_P_init 48 = .ok (.aload_n 0, 1) := by decide +kernel
theorem d_P_init_49 : decode b_P_init 49 = .ok (.getfield 19, 3) := by decide +kernel
theorem d_P_init_52 : decode b_P_init 52 = .ok (.iconst 0, 1) := by decide +kernel
theorem d_P_init_53 : decode b_P_init 53 = .ok (.iconst 0, 1) := by decide +kernel
theorem d_P_init_54 : decode b_P_init 54 = .ok (.invokestatic 30, 3) := by decide +kernel
theorem d_P_init_57 : decode b_P_init 57 = .ok (.lastore, 1) := by decide +kernel
theorem d_P_init_58 : decode b_P_init 58 = .ok (.aload_n 0, 1) := by decide +kernel
theorem d_P_init_59 : decode b_P_init 59 = .ok (.getfield 23, 3) := by decide +kernel
theorem d_P_init_62 : decode b_P_init 62 = .ok (.iconst 0, 1) := by decide +kernel
theorem d_P_init_63 : decode b_P_init 63 = .ok (.iconst 0, 1) := by decide +kernel
theorem d_P_init_64 : decode b_P_init 64 = .ok (.invokestatic 30, 3) := by decide +kernel
theorem d_P_init_67 : decode b_P_init 67 = .ok (.lastore, 1) := by decide +kernel
theorem d_P_init_68 : decode b_P_init 68 = .ok (.return_, 1) := by decide +kernel
theorem d_P_has_0 : decode b_P_has 0 = .ok (.iload_n 1, 1) := by decide +kernel
theorem d_P_has_1 : decode b_P_has 1 = .ok (.ifCond .lt 15, 3) := by decide +kernel
theorem d_P_has_4 : decode b_P_has 4 = .ok (.iload_n 1, 1) := by decide +kernel
theorem d_P_has_5 : decode b_P_has 5 = .ok (.aload_n 0, 1) := by decide +kernel
theorem d_P_has_6 : decode b_P_has 6 = .ok (.getfield 26, 3) := by decide +kernel
theorem d_P_has_9 : decode b_P_has 9 = .ok (.if_icmp .ge 7, 3) := by decide +kernel
theorem d_P_has_12 : decode b_P_has 12 = .ok (.iconst 1, 1) := by decide +kernel
theorem d_P_has_13 : decode b_P_has 13 = .ok (.goto 4, 3) := by decide +kernel
theorem d_P_has_16 : decode b_P_has 16 = .ok (.iconst 0, 1) := by decide +kernel
theorem d_P_has_17 : decode b_P_has 17 = .ok (.ireturn, 1) := by decide +kernel
theorem d_P_find_0 : decode b_P_find 0 = .ok (.iconst 1, 1) := by decide +kernel
theorem d_P_find_1 : decode b_P_find 1 = .ok (.istore_n 3, 1) := by decide +kernel
theorem d_P_find_2 : decode b_P_find 2 = .ok (.iload_n 3, 1) := by decide +kernel
theorem d_P_find_3 : decode b_P_find 3 = .ok (.aload_n 0, 1) := by decide +kernel
theorem d_P_find_4 : decode b_P_find 4 = .ok (.getfield 26, 3) := by decide +kernel
theorem d_P_find_7 : decode b_P_find 7 = .ok (.if_icmp .ge 31, 3) := by decide +kernel
theorem d_P_find_10 : decode b_P_find 10 = .ok (.aload_n 0, 1) := by decide +kernel
theorem d_P_find_11 : decode b_P_find 11 = .ok (.getfield 9, 3) := by decide +kernel
theorem d_P_find_14 : decode b_P_find 14 = .ok (.iload_n 3, 1) := by decide +kernel
theorem d_P_find_15 : decode b_P_find 15 = .ok (.iaload, 1) := by decide +kernel
theorem d_P_find_16 : decode b_P_find 16 = .ok (.iload_n 1, 1) := by decide +kernel
theorem d_P_find_17 : decode b_P_find 17 = .ok (.if_icmp .ne 15, 3) := by decide +kernel
theorem d_P_find_20 : decode b_P_find 20 = .ok (.aload_n 0, 1) := by decide +kernel
theorem d_P_find_21 : decode b_P_find 21 = .ok (.getfield 15, 3) := by decide +kernel
theorem d_P_find_24 : decode b_P_find 24 = .ok (.iload_n 3, 1) := by decide +kernel
theorem d_P_find_25 : decode b_P_find 25 = .ok (.caload, 1) := by decide +kernel
theorem d_P_find_26 : decode b_P_find 26 = .ok (.iload_n 2, 1) := by decide +kernel
theorem d_P_find_27 : decode b_P_find 27 = .ok (.if_icmp .ne 5, 3) := by decide +kernel
theorem d_P_find_30 : decode b_P_find 30 = .ok (.iload_n 3, 1) := by decide +kernel
theorem d_P_find_31 : decode b_P_find 31 = .ok (.ireturn, 1) := by decide +kernel
theorem d_P_find_32 : decode b_P_find 32 = .ok (.iinc 3 1, 3) := by decide +kernel
theorem d_P_find_35 : decode b_P_find 35 = .ok (.goto (-33), 3) := by decide +kernel
theorem d_P_find_38 : decode b_P_find 38 = .ok (.iconst (-1), 1) := by decide +kernel
theorem d_P_find_39 : decode b_P_find 39 = .ok (.ireturn, 1) := by decide +kernel
theorem d_P_add_0 : decode b_P_add 0 = .ok (.aload_n 0, 1) := by decide +kernel
theorem d_P_add_1 : decode b_P_add 1 = .ok (.iload_n 1, 1) := by decide +kernel
theorem d_P_add_2 : decode b_P_add 2 = .ok (.invokevirtual 34, 3) := by decide +kernel
theorem d_P_add_5 : decode b_P_add 5 = .ok (.ifCond .eq 12, 3) := by decide +kernel
theorem d_P_add_8 : decode b_P_add 8 = .ok (.aload_n 0, 1) := by decide +kernel
theorem d_P_add_9 : decode b_P_add 9 = .ok (.getfield 26, 3) := by decide +kernel
theorem d_P_add_12 : decode b_P_add 12 = .ok (.bipush 60, 2) := by decide +kernel
theorem d_P_add_14 : decode b_P_add 14 = .ok (.if_icmp .lt 5, 3) := by decide +kernel
theorem d_P_add_17 : decode b_P_add 17 = .ok (.iconst (-1), 1) := by decide +kernel
theorem d_P_add_18 : decode b_P_add 18 = .ok (.ireturn, 1) := by decide +kernel
theorem d_P_add_19 : decode b_P_add 19 = .ok (.aload_n 0, 1) := by decide +kernel
theorem d_P_add_20 : decode b_P_add 20 = .ok (.getfield 26, 3) := by decide +kernel
theorem d_P_add_23 : decode b_P_add 23 = .ok (.istore_n 3, 1) := by decide +kernel
theorem d_P_add_24 : decode b_P_add 24 = .ok (.aload_n 0, 1) := by decide +kernel
theorem d_P_add_25 : decode b_P_add 25 = .ok (.dup, 1) := by decide +kernel
theorem d_P_add_26 : decode b_P_add 26 = .ok (.getfield 26, 3) := by decide +kernel
theorem d_P_add_29 : decode b_P_add 29 = .ok (.iconst 1, 1) := by decide +kernel
theorem d_P_add_30 : decode b_P_add 30 = .ok (.iadd, 1) := by decide +kernel
theorem d_P_add_31 : decode b_P_add 31 = .ok (.putfield 26, 3) := by decide +kernel
theorem d_P_add_34 : decode b_P_add 34 = .ok (.aload_n 0, 1) := by decide +kernel
theorem d_P_add_35 : decode b_P_add 35 = .ok (.getfield 9, 3) := by decide +kernel
theorem d_P_add_38 : decode b_P_add 38 = .ok (.iload_n 3, 1) := by decide +kernel
theorem d_P_add_39 : decode b_P_add 39 = .ok (.iload_n 1, 1) := by decide +kernel
theorem d_P_add_40 : decode b_P_add 40 = .ok (.iastore, 1) := by decide +kernel
theorem d_P_add_41 : decode b_P_add 41 = .ok (.aload_n 0, 1) := by decide +kernel
theorem d_P_add_42 : decode b_P_add 42 = .ok (.getfield 15, 3) := by decide +kernel
theorem d_P_add_45 : decode b_P_add 45 = .ok (.iload_n 3, 1) := by decide +kernel
theorem d_P_add_46 : decode b_P_add 46 = .ok (.iload_n 2, 1) := by decide +kernel
theorem d_P_add_47 : decode b_P_add 47 = .ok (.castore, 1) := by decide +kernel
theorem d_P_add_48 : decode b_P_add 48 = .ok (.aload_n 0, 1) := by decide +kernel
theorem d_P_add_49 : decode b_P_add 49 = .ok (.getfield 19, 3) := by decide +kernel
theorem d_P_add_52 : decode b_P_add 52 = .ok (.iload_n 3, 1) := by decide +kernel
theorem d_P_add_53 : decode b_P_add 53 = .ok (.aload_n 0, 1) := by decide +kernel
theorem d_P_add_54 : decode b_P_add 54 = .ok (.getfield 19, 3) := by decide +kernel
theorem d_P_add_57 : decode b_P_add 57 = .ok (.iload_n 1, 1) := by decide +kernel
theorem d_P_add_58 : decode b_P_add 58 = .ok (.laload, 1) := by decide +kernel
theorem d_P_add_59 : decode b_P_add 59 = .ok (.iload_n 3, 1) := by decide +kernel
theorem d_P_add_60 : decode b_P_add 60 = .ok (.invokestatic 30, 3) := by decide +kernel
theorem d_P_add_63 : decode b_P_add 63 = .ok (.lor, 1) := by decide +kernel
theorem d_P_add_64 : decode b_P_add 64 = .ok (.lastore, 1) := by decide +kernel
theorem d_P_add_65 : decode b_P_add 65 = .ok (.iconst 0, 1) := by decide +kernel
theorem d_P_add_66 : decode b_P_add 66 = .ok (.istore 4, 2) := by decide +kernel
theorem d_P_add_68 : decode b_P_add 68 = .ok (.iload 4, 2) := by decide +kernel
theorem d_P_add_70 : decode b_P_add 70 = .ok (.aload_n 0, 1) := by decide +kernel
theorem d_P_add_71 : decode b_P_add 71 = .ok (.getfield 26, 3) := by decide +kernel
theorem d_P_add_74 : decode b_P_add 74 = .ok (.if_icmp .ge 37, 3) := by decide +kernel
theorem d_P_add_77 : decode b_P_add 77 = .ok (.aload_n 0, 1) := by decide +kernel
theorem d_P_add_78 : decode b_P_add 78 = .ok (.getfield 19, 3) := by decide +kernel
theorem d_P_add_81 : decode b_P_add 81 = .ok (.iload_n 3, 1) := by decide +kernel
theorem d_P_add_82 : decode b_P_add 82 = .ok (.laload, 1) := by decide +kernel
theorem d_P_add_83 : decode b_P_add 83 = .ok (.iload 4, 2) := by decide +kernel
theorem d_P_add_85 : decode b_P_add 85 = .ok (.invokestatic 38, 3) := by decide +kernel
theorem d_P_add_88 : decode b_P_add 88 = .ok (.ifCond .eq 17, 3) := by decide +kernel
theorem d_P_add_91 : decode b_P_add 91 = .ok (.aload_n 0, 1) := by decide +kernel
theorem d_P_add_92 : decode b_P_add 92 = .ok (.getfield 23, 3) := by decide +kernel
theorem d_P_add_95 : decode b_P_add 95 = .ok (.iload 4, 2) := by decide +kernel
theorem d_P_add_97 : decode b_P_add 97 = .ok (.dup2, 1) := by decide +kernel
theorem d_P_add_98 : decode b_P_add 98 = .ok (.laload, 1) := by decide +kernel
theorem d_P_add_99 : decode b_P_add 99 = .ok (.iload_n 3, 1) := by decide +kernel
theorem d_P_add_100 : decode b_P_add 100 = .ok (.invokestatic 30, 3) := by decide +kernel
theorem d_P_add_103 : decode b_P_add 103 = .ok (.lor, 1) := by decide +kernel
theorem d_P_add_104 : decode b_P_add 104 = .ok (.lastore, 1) := by decide +kernel
theorem d_P_add_105 : decode b_P_add 105 = .ok (.iinc 4 1, 3) := by decide +kernel
theorem d_P_add_108 : decode b_P_add 108 = .ok (.goto (-40), 3) := by decide +kernel
theorem d_P_add_111 : decode b_P_add 111 = .ok (.iload_n 3, 1) := by decide +kernel
theorem d_P_add_112 : decode b_P_add 112 = .ok (.ireturn, 1) := by decide +kernel
theorem d_P_under_0 : decode b_P_under 0 = .ok (.aload_n 0, 1) := by decide +kernel
theorem d_P_under_1 : decode b_P_under 1 = .ok (.iload_n 1, 1) := by decide +kernel
theorem d_P_under_2 : decode b_P_under 2 = .ok (.invokevirtual 34, 3) := by decide +kernel
theorem d_P_under_5 : decode b_P_under 5 = .ok (.ifCond .eq 12, 3) := by decide +kernel
theorem d_P_under_8 : decode b_P_under 8 = .ok (.aload_n 0, 1) := by decide +kernel
theorem d_P_under_9 : decode b_P_under 9 = .ok (.getfield 23, 3) := by decide +kernel
theorem d_P_under_12 : decode b_P_under 12 = .ok (.iload_n 1, 1) := by decide +kernel
theorem d_P_under_13 : decode b_P_under 13 = .ok (.laload, 1) := by decide +kernel
theorem d_P_under_14 : decode b_P_under 14 = .ok (.goto 4, 3) := by decide +kernel
theorem d_P_under_17 : decode b_P_under 17 = .ok (.lconst 0, 1) := by decide +kernel
theorem d_P_under_18 : decode b_P_under 18 = .ok (.lreturn, 1) := by decide +kernel
theorem d_P_inTheWayOf_0 : decode b_P_inTheWayOf 0 = .ok (.aload_n 0, 1) := by decide +kernel
theorem d_P_inTheWayOf_1 : decode b_P_inTheWayOf 1 = .ok (.iload_n 1, 1) := by decide +kernel
theorem d_P_inTheWayOf_2 : decode b_P_inTheWayOf 2 = .ok (.invokevirtual 34, 3) := by decide +kernel
theorem d_P_inTheWayOf_5 : decode b_P_inTheWayOf 5 = .ok (.ifCond .eq 28, 3) := by decide +kernel
theorem d_P_inTheWayOf_8 : decode b_P_inTheWayOf 8 = .ok (.aload_n 0, 1) := by decide +kernel
theorem d_P_inTheWayOf_9 : decode b_P_inTheWayOf 9 = .ok (.getfield 19, 3) := by decide +kernel
theorem d_P_inTheWayOf_12 : decode b_P_inTheWayOf 12 = .ok (.iload_n 1, 1) := by decide +kernel
theorem d_P_inTheWayOf_13 : decode b_P_inTheWayOf 13 = .ok (.laload, 1) := by decide +kernel
theorem d_P_inTheWayOf_14 : decode b_P_inTheWayOf 14 = .ok (.aload_n 0, 1) := by decide +kernel
theorem d_P_inTheWayOf_15 : decode b_P_inTheWayOf 15 = .ok (.getfield 23, 3) := by decide +kernel
theorem d_P_inTheWayOf_18 : decode b_P_inTheWayOf 18 = .ok (.iload_n 1, 1) := by decide +kernel
theorem d_P_inTheWayOf_19 : decode b_P_inTheWayOf 19 = .ok (.laload, 1) := by decide +kernel
theorem d_P_inTheWayOf_20 : decode b_P_inTheWayOf 20 = .ok (.lor, 1) := by decide +kernel
theorem d_P_inTheWayOf_21 : decode b_P_inTheWayOf 21 = .ok (.iload_n 1, 1) := by decide +kernel
theorem d_P_inTheWayOf_22 : decode b_P_inTheWayOf 22 = .ok (.invokestatic 30, 3) := by decide +kernel
theorem d_P_inTheWayOf_25 : decode b_P_inTheWayOf 25 = .ok (.ldc2_w 42, 3) := by decide +kernel
theorem d_P_inTheWayOf_28 : decode b_P_inTheWayOf 28 = .ok (.lxor, 1) := by decide +kernel
theorem d_P_inTheWayOf_29 : decode b_P_inTheWayOf 29 = .ok (.land, 1) := by decide +kernel
theorem d_P_inTheWayOf_30 : decode b_P_inTheWayOf 30 = .ok (.goto 4, 3) := by decide +kernel
theorem d_P_inTheWayOf_33 : decode b_P_inTheWayOf 33 = .ok (.lconst 0, 1) := by decide +kernel
theorem d_P_inTheWayOf_34 : decode b_P_inTheWayOf 34 = .ok (.lreturn, 1) := by decide +kernel
theorem d_P_withAbove_0 : decode b_P_withAbove 0 = .ok (.lconst 0, 1) := by decide +kernel
theorem d_P_withAbove_1 : decode b_P_withAbove 1 = .ok (.lstore_n 3, 1) := by decide +kernel
theorem d_P_withAbove_2 : decode b_P_withAbove 2 = .ok (.iconst 0, 1) := by decide +kernel
theorem d_P_withAbove_3 : decode b_P_withAbove 3 = .ok (.istore 5, 2) := by decide +kernel
theorem d_P_withAbove_5 : decode b_P_withAbove 5 = .ok (.iload 5, 2) := by decide +kernel
theorem d_P_withAbove_7 : decode b_P_withAbove 7 = .ok (.aload_n 0, 1) := by decide +kernel
theorem d_P_withAbove_8 : decode b_P_withAbove 8 = .ok (.getfield 26, 3) := by decide +kernel
theorem d_P_withAbove_11 : decode b_P_withAbove 11 = .ok (.if_icmp .ge 28, 3) := by decide +kernel
theorem d_P_withAbove_14 : decode b_P_withAbove 14 = .ok (.lload_n 1, 1) := by decide +kernel
theorem d_P_withAbove_15 : decode b_P_withAbove 15 = .ok (.iload 5, 2) := by decide +kernel
theorem d_P_withAbove_17 : decode b_P_withAbove 17 = .ok (.invokestatic 38, 3) := by decide +kernel
theorem d_P_withAbove_20 : decode b_P_withAbove 20 = .ok (.ifCond .eq 13, 3) := by decide +kernel
theorem d_P_withAbove_23 : decode b_P_withAbove 23 = .ok (.lload_n 3, 1) := by decide +kernel
theorem d_P_withAbove_24 : decode b_P_withAbove 24 = .ok (.aload_n 0, 1) := by decide +kernel
theorem d_P_withAbove_25 : decode b_P_withAbove 25 = .ok (.getfield 19, 3) := by decide +kernel
theorem d_P_withAbove_28 : decode b_P_withAbove 28 = .ok (.iload 5, 2) := by decide +kernel
theorem d_P_withAbove_30 : decode b_P_withAbove 30 = .ok (.laload, 1) := by decide +kernel
theorem d_P_withAbove_31 : decode b_P_withAbove 31 = .ok (.lor, 1) := by decide +kernel
theorem d_P_withAbove_32 : decode b_P_withAbove 32 = .ok (.lstore_n 3, 1) := by decide +kernel
theorem d_P_withAbove_33 : decode b_P_withAbove 33 = .ok (.iinc 5 1, 3) := by decide +kernel
theorem d_P_withAbove_36 : decode b_P_withAbove 36 = .ok (.goto (-31), 3) := by decide +kernel
theorem d_P_withAbove_39 : decode b_P_withAbove 39 = .ok (.lload_n 3, 1) := by decide +kernel
theorem d_P_withAbove_40 : decode b_P_withAbove 40 = .ok (.lreturn, 1) := by decide +kernel
theorem d_P_hasClash_0 : decode b_P_hasClash 0 = .ok (.iconst 1, 1) := by decide +kernel
theorem d_P_hasClash_1 : decode b_P_hasClash 1 = .ok (.istore_n 3, 1) := by decide +kernel
theorem d_P_hasClash_2 : decode b_P_hasClash 2 = .ok (.iload_n 3, 1) := by decide +kernel
theorem d_P_hasClash_3 : decode b_P_hasClash 3 = .ok (.aload_n 0, 1) := by decide +kernel
theorem d_P_hasClash_4 : decode b_P_hasClash 4 = .ok (.getfield 26, 3) := by decide +kernel
theorem d_P_hasClash_7 : decode b_P_hasClash 7 = .ok (.if_icmp .ge 56, 3) := by decide +kernel
theorem d_P_hasClash_10 : decode b_P_hasClash 10 = .ok (.lload_n 1, 1) := by decide +kernel
theorem d_P_hasClash_11 : decode b_P_hasClash 11 = .ok (.iload_n 3, 1) := by decide +kernel
theorem d_P_hasClash_12 : decode b_P_hasClash 12 = .ok (.invokestatic 38, 3) := by decide +kernel
theorem d_P_hasClash_15 : decode b_P_hasClash 15 = .ok (.ifCond .eq 42, 3) := by decide +kernel
theorem d_P_hasClash_18 : decode b_P_hasClash 18 = .ok (.aload_n 0, 1) := by decide +kernel
theorem d_P_hasClash_19 : decode b_P_hasClash 19 = .ok (.aload_n 0, 1) := by decide +kernel
theorem d_P_hasClash_20 : decode b_P_hasClash 20 = .ok (.getfield 9, 3) := by decide +kernel
theorem d_P_hasClash_23 : decode b_P_hasClash 23 = .ok (.iload_n 3, 1) := by decide +kernel
theorem d_P_hasClash_24 : decode b_P_hasClash 24 = .ok (.iaload, 1) := by decide +kernel
theorem d_P_hasClash_25 : decode b_P_hasClash 25 = .ok (.aload_n 0, 1) := by decide +kernel
theorem d_P_hasClash_26 : decode b_P_hasClash 26 = .ok (.getfield 15, 3) := by decide +kernel
theorem d_P_hasClash_29 : decode b_P_hasClash 29 = .ok (.iload_n 3, 1) := by decide +kernel
theorem d_P_hasClash_30 : decode b_P_hasClash 30 = .ok (.caload, 1) := by decide +kernel
theorem d_P_hasClash_31 : decode b_P_hasClash 31 = .ok (.bipush 32, 2) := by decide +kernel
theorem d_P_hasClash_33 : decode b_P_hasClash 33 = .ok (.ixor, 1) := by decide +kernel
theorem d_P_hasClash_34 : decode b_P_hasClash 34 = .ok (.i2c, 1) := by decide +kernel
theorem d_P_hasClash_35 : decode b_P_hasClash 35 = .ok (.invokevirtual 44, 3) := by decide +kernel
theorem d_P_hasClash_38 : decode b_P_hasClash 38 = .ok (.istore 4, 2) := by decide +kernel
theorem d_P_hasClash_40 : decode b_P_hasClash 40 = .ok (.iload 4, 2) := by decide +kernel
theorem d_P_hasClash_42 : decode b_P_hasClash 42 = .ok (.iconst (-1), 1) := by decide +kernel
theorem d_P_hasClash_43 : decode b_P_hasClash 43 = .ok (.if_icmp .eq 14, 3) := by decide +kernel
theorem d_P_hasClash_46 : decode b_P_hasClash 46 = .ok (.lload_n 1, 1) := by decide +kernel
theorem d_P_hasClash_47 : decode b_P_hasClash 47 = .ok (.iload 4, 2) := by decide +kernel
theorem d_P_hasClash_49 : decode b_P_hasClash 49 = .ok (.invokestatic 38, 3) := by decide +kernel
theorem d_P_hasClash_52 : decode b_P_hasClash 52 = .ok (.ifCond .eq 5, 3) := by decide +kernel
theorem d_P_hasClash_55 : decode b_P_hasClash 55 = .ok (.iconst 1, 1) := by decide +kernel
theorem d_P_hasClash_56 : decode b_P_hasClash 56 = .ok (.ireturn, 1) := by decide +kernel
theorem d_P_hasClash_57 : decode b_P_hasClash 57 = .ok (.iinc 3 1, 3) := by decide +kernel
theorem d_P_hasClash_60 : decode b_P_hasClash 60 = .ok (.goto (-58), 3) := by decide +kernel
theorem d_P_hasClash_63 : decode b_P_hasClash 63 = .ok (.iconst 0, 1) := by decide +kernel
theorem d_P_hasClash_64 : decode b_P_hasClash 64 = .ok (.ireturn, 1) := by decide +kernel
theorem d_P_letterInFolder_0 : decode b_P_letterInFolder 0 = .ok (.lconst 0, 1) := by decide +kernel
theorem d_P_letterInFolder_1 : decode b_P_letterInFolder 1 = .ok (.lstore 5, 2) := by decide +kernel
theorem d_P_letterInFolder_3 : decode b_P_letterInFolder 3 = .ok (.iconst 1, 1) := by decide +kernel
theorem d_P_letterInFolder_4 : decode b_P_letterInFolder 4 = .ok (.istore 7, 2) := by decide +kernel
theorem d_P_letterInFolder_6 : decode b_P_letterInFolder 6 = .ok (.iload 7, 2) := by decide +kernel
theorem d_P_letterInFolder_8 : decode b_P_letterInFolder 8 = .ok (.aload_n 0, 1) := by decide +kernel
theorem d_P_letterInFolder_9 : decode b_P_letterInFolder 9 = .ok (.getfield 26, 3) := by decide +kernel
theorem d_P_letterInFolder_12 : decode b_P_letterInFolder 12 = .ok (.if_icmp .ge 51, 3) := by decide +kernel
theorem d_P_letterInFolder_15 : decode b_P_letterInFolder 15 = .ok (.aload_n 0, 1) := by decide +kernel
theorem d_P_letterInFolder_16 : decode b_P_letterInFolder 16 = .ok (.getfield 9, 3) := by decide +kernel
theorem d_P_letterInFolder_19 : decode b_P_letterInFolder 19 = .ok (.iload 7, 2) := by decide +kernel
theorem d_P_letterInFolder_21 : decode b_P_letterInFolder 21 = .ok (.iaload, 1) := by decide +kernel
theorem d_P_letterInFolder_22 : decode b_P_letterInFolder 22 = .ok (.iload_n 1, 1) := by decide +kernel
theorem d_P_letterInFolder_23 : decode b_P_letterInFolder 23 = .ok (.if_icmp .ne 34, 3) := by decide +kernel
theorem d_P_letterInFolder_26 : decode b_P_letterInFolder 26 = .ok (.aload_n 0, 1) := by decide +kernel
theorem d_P_letterInFolder_27 : decode b_P_letterInFolder 27 = .ok (.getfield 23, 3) := by decide +kernel
theorem d_P_letterInFolder_30 : decode b_P_letterInFolder 30 = .ok (.iload 7, 2) := by decide +kernel
theorem d_P_letterInFolder_32 : decode b_P_letterInFolder 32 = .ok (.laload, 1) := by decide +kernel
theorem d_P_letterInFolder_33 : decode b_P_letterInFolder 33 = .ok (.lload_n 2, 1) := by decide +kernel
theorem d_P_letterInFolder_34 : decode b_P_letterInFolder 34 = .ok (.land, 1) := by decide +kernel
theorem d_P_letterInFolder_35 : decode b_P_letterInFolder 35 = .ok (.lconst 0, 1) := by decide +kernel
theorem d_P_letterInFolder_36 : decode b_P_letterInFolder 36 = .ok (.lcmp, 1) := by decide +kernel
theorem d_P_letterInFolder_37 : decode b_P_letterInFolder 37 = .ok (.ifCond .eq 20, 3) := by decide +kernel
theorem d_P_letterInFolder_40 : decode b_P_letterInFolder 40 = .ok (.lload 5, 2) := by decide +kernel
theorem d_P_letterInFolder_42 : decode b_P_letterInFolder 42 = .ok (.lconst 1, 1) := by decide +kernel
theorem d_P_letterInFolder_43 : decode b_P_letterInFolder 43 = .ok (.aload_n 0, 1) := by decide +kernel
theorem d_P_letterInFolder_44 : decode b_P_letterInFolder 44 = .ok (.getfield 15, 3) := by decide +kernel
theorem d_P_letterInFolder_47 : decode b_P_letterInFolder 47 = .ok (.iload 7, 2) := by decide +kernel
theorem d_P_letterInFolder_49 : decode b_P_letterInFolder 49 = .ok (.caload, 1) := by decide +kernel
theorem d_P_letterInFolder_50 : decode b_P_letterInFolder 50 = .ok (.bipush 65, 2) := by decide +kernel
theorem d_P_letterInFolder_52 : decode b_P_letterInFolder 52 = .ok (.isub, 1) := by decide +kernel
theorem d_P_letterInFolder_53 : decode b_P_letterInFolder 53 = .ok (.lshl, 1) := by decide +kernel
theorem d_P_letterInFolder_54 : decode b_P_letterInFolder 54 = .ok (.lor, 1) := by decide +kernel
theorem d_P_letterInFolder_55 : decode b_P_letterInFolder 55 = .ok (.lstore 5, 2) := by decide +kernel
theorem d_P_letterInFolder_57 : decode b_P_letterInFolder 57 = .ok (.iinc 7 1, 3) := by decide +kernel
theorem d_P_letterInFolder_60 : decode b_P_letterInFolder 60 = .ok (.goto (-54), 3) := by decide +kernel
theorem d_P_letterInFolder_63 : decode b_P_letterInFolder 63 = .ok (.iconst 0, 1) := by decide +kernel
theorem d_P_letterInFolder_64 : decode b_P_letterInFolder 64 = .ok (.istore 7, 2) := by decide +kernel
theorem d_P_letterInFolder_66 : decode b_P_letterInFolder 66 = .ok (.iconst 0, 1) := by decide +kernel
theorem d_P_letterInFolder_67 : decode b_P_letterInFolder 67 = .ok (.istore 8, 2) := by decide +kernel
theorem d_P_letterInFolder_69 : decode b_P_letterInFolder 69 = .ok (.iload 8, 2) := by decide +kernel
theorem d_P_letterInFolder_71 : decode b_P_letterInFolder 71 = .ok (.bipush 58, 2) := by decide +kernel
theorem d_P_letterInFolder_73 : decode b_P_letterInFolder 73 = .ok (.if_icmp .ge 37, 3) := by decide +kernel
theorem d_P_letterInFolder_76 : decode b_P_letterInFolder 76 = .ok (.lload 5, 2) := by decide +kernel
theorem d_P_letterInFolder_78 : decode b_P_letterInFolder 78 = .ok (.lconst 1, 1) := by decide +kernel
theorem d_P_letterInFolder_79 : decode b_P_letterInFolder 79 = .ok (.iload 8, 2) := by decide +kernel
theorem d_P_letterInFolder_81 : decode b_P_letterInFolder 81 = .ok (.lshl, 1) := by decide +kernel
theorem d_P_letterInFolder_82 : decode b_P_letterInFolder 82 = .ok (.land, 1) := by decide +kernel
theorem d_P_letterInFolder_83 : decode b_P_letterInFolder 83 = .ok (.lconst 0, 1) := by decide +kernel
theorem d_P_letterInFolder_84 : decode b_P_letterInFolder 84 = .ok (.lcmp, 1) := by decide +kernel
theorem d_P_letterInFolder_85 : decode b_P_letterInFolder 85 = .ok (.ifCond .eq 19, 3) := by decide +kernel
theorem d_P_letterInFolder_88 : decode b_P_letterInFolder 88 = .ok (.iload 7, 2) := by decide +kernel
theorem d_P_letterInFolder_90 : decode b_P_letterInFolder 90 = .ok (.iload 4, 2) := by decide +kernel
theorem d_P_letterInFolder_92 : decode b_P_letterInFolder 92 = .ok (.if_icmp .ne 9, 3) := by decide +kernel
theorem d_P_letterInFolder_95 : decode b_P_letterInFolder 95 = .ok (.bipush 65, 2) := by decide +kernel
theorem d_P_letterInFolder_97 : decode b_P_letterInFolder 97 = .ok (.iload 8, 2) := by decide +kernel
theorem d_P_letterInFolder_99 : decode b_P_letterInFolder 99 = .ok (.iadd, 1) := by decide +kernel
theorem d_P_letterInFolder_100 : decode b_P_letterInFolder 100 = .ok (.ireturn, 1) := by decide +kernel
theorem d_P_letterInFolder_101 : decode b_P_letterInFolder 101 = .ok (.iinc 7 1, 3) := by decide +kernel
theorem d_P_letterInFolder_104 : decode b_P_letterInFolder 104 = .ok (.iinc 8 1, 3) := by decide +kernel
theorem d_P_letterInFolder_107 : decode b_P_letterInFolder 107 = .ok (.goto (-38), 3) := by decide +kernel
theorem d_P_letterInFolder_110 : decode b_P_letterInFolder 110 = .ok (.iconst 0, 1) := by decide +kernel
theorem d_P_letterInFolder_111 : decode b_P_letterInFolder 111 = .ok (.ireturn, 1) := by decide +kernel
theorem d_S_init_0 : decode b_S_init 0 = .ok (.aload_n 0, 1) := by decide +kernel
theorem d_S_init_1 : decode b_S_init 1 = .ok (.invokespecial 3, 3) := by decide +kernel
theorem d_S_init_4 : decode b_S_init 4 = .ok (.aload_n 0, 1) := by decide +kernel
theorem d_S_init_5 : decode b_S_init 5 = .ok (.bipush 60, 2) := by decide +kernel
theorem d_S_init_7 : decode b_S_init 7 = .ok (.newarray .int, 2) := by decide +kernel
theorem d_S_init_9 : decode b_S_init 9 = .ok (.putfield 9, 3) := by decide +kernel
theorem d_S_init_12 : decode b_S_init 12 = .ok (.return_, 1) := by decide +kernel
theorem d_S_taken_0 : decode b_S_taken 0 = .ok (.aload_n 0, 1) := by decide +kernel
theorem d_S_taken_1 : decode b_S_taken 1 = .ok (.getfield 15, 3) := by decide +kernel
theorem d_S_taken_4 : decode b_S_taken 4 = .ok (.aload_n 0, 1) := by decide +kernel
theorem d_S_taken_5 : decode b_S_taken 5 = .ok (.getfield 19, 3) := by decide +kernel
theorem d_S_taken_8 : decode b_S_taken 8 = .ok (.lor, 1) := by decide +kernel
theorem d_S_taken_9 : decode b_S_taken 9 = .ok (.lreturn, 1) := by decide +kernel
theorem d_S_putFile_0 : decode b_S_putFile 0 = .ok (.iload_n 1, 1) := by decide +kernel
theorem d_S_putFile_1 : decode b_S_putFile 1 = .ok (.invokestatic 22, 3) := by decide +kernel
theorem d_S_putFile_4 : decode b_S_putFile 4 = .ok (.ifCond .eq 28, 3) := by decide +kernel
theorem d_S_putFile_7 : decode b_S_putFile 7 = .ok (.aload_n 0, 1) := by decide +kernel
theorem d_S_putFile_8 : decode b_S_putFile 8 = .ok (.iload_n 1, 1) := by decide +kernel
theorem d_S_putFile_9 : decode b_S_putFile 9 = .ok (.invokevirtual 26, 3) := by decide +kernel
theorem d_S_putFile_12 : decode b_S_putFile 12 = .ok (.aload_n 0, 1) := by decide +kernel
theorem d_S_putFile_13 : decode b_S_putFile 13 = .ok (.dup, 1) := by decide +kernel
theorem d_S_putFile_14 : decode b_S_putFile 14 = .ok (.getfield 15, 3) := by decide +kernel
theorem d_S_putFile_17 : decode b_S_putFile 17 = .ok (.iload_n 1, 1) := by decide +kernel
theorem d_S_putFile_18 : decode b_S_putFile 18 = .ok (.invokestatic 30, 3) := by decide +kernel
theorem d_S_putFile_21 : decode b_S_putFile 21 = .ok (.lor, 1) := by decide +kernel
theorem d_S_putFile_22 : decode b_S_putFile 22 = .ok (.putfield 15, 3) := by decide +kernel
theorem d_S_putFile_25 : decode b_S_putFile 25 = .ok (.aload_n 0, 1) := by decide +kernel
theorem d_S_putFile_26 : decode b_S_putFile 26 = .ok (.getfield 9, 3) := by decide +kernel
theorem d_S_putFile_29 : decode b_S_putFile 29 = .ok (.iload_n 1, 1) := by decide +kernel
theorem d_S_putFile_30 : decode b_S_putFile 30 = .ok (.iload_n 2, 1) := by decide +kernel
theorem d_S_putFile_31 : decode b_S_putFile 31 = .ok (.iastore, 1) := by decide +kernel
theorem d_S_putFile_32 : decode b_S_putFile 32 = .ok (.return_, 1) := by decide +kernel
theorem d_S_putLink_0 : decode b_S_putLink 0 = .ok (.iload_n 1, 1) := by decide +kernel
theorem d_S_putLink_1 : decode b_S_putLink 1 = .ok (.invokestatic 22, 3) := by decide +kernel
theorem d_S_putLink_4 : decode b_S_putLink 4 = .ok (.ifCond .eq 35, 3) := by decide +kernel
theorem d_S_putLink_7 : decode b_S_putLink 7 = .ok (.iload_n 2, 1) := by decide +kernel
theorem d_S_putLink_8 : decode b_S_putLink 8 = .ok (.invokestatic 22, 3) := by decide +kernel
theorem d_S_putLink_11 : decode b_S_putLink 11 = .ok (.ifCond .eq 28, 3) := by decide +kernel
theorem d_S_putLink_14 : decode b_S_putLink 14 = .ok (.aload_n 0, 1) := by decide +kernel
theorem d_S_putLink_15 : decode b_S_putLink 15 = .ok (.iload_n 1, 1) := by decide +kernel
theorem d_S_putLink_16 : decode b_S_putLink 16 = .ok (.invokevirtual 26, 3) := by decide +kernel
theorem d_S_putLink_19 : decode b_S_putLink 19 = .ok (.aload_n 0, 1) := by decide +kernel
theorem d_S_putLink_20 : decode b_S_putLink 20 = .ok (.dup, 1) := by decide +kernel
theorem d_S_putLink_21 : decode b_S_putLink 21 = .ok (.getfield 19, 3) := by decide +kernel
theorem d_S_putLink_24 : decode b_S_putLink 24 = .ok (.iload_n 1, 1) := by decide +kernel
theorem d_S_putLink_25 : decode b_S_putLink 25 = .ok (.invokestatic 30, 3) := by decide +kernel
theorem d_S_putLink_28 : decode b_S_putLink 28 = .ok (.lor, 1) := by decide +kernel
theorem d_S_putLink_29 : decode b_S_putLink 29 = .ok (.putfield 19, 3) := by decide +kernel
theorem d_S_putLink_32 : decode b_S_putLink 32 = .ok (.aload_n 0, 1) := by decide +kernel
theorem d_S_putLink_33 : decode b_S_putLink 33 = .ok (.getfield 9, 3) := by decide +kernel
theorem d_S_putLink_36 : decode b_S_putLink 36 = .ok (.iload_n 1, 1) := by decide +kernel
theorem d_S_putLink_37 : decode b_S_putLink 37 = .ok (.iload_n 2, 1) := by decide +kernel
theorem d_S_putLink_38 : decode b_S_putLink 38 = .ok (.iastore, 1) := by decide +kernel
theorem d_S_putLink_39 : decode b_S_putLink 39 = .ok (.return_, 1) := by decide +kernel
theorem d_S_takeAway_0 : decode b_S_takeAway 0 = .ok (.aload_n 0, 1) := by decide +kernel
theorem d_S_takeAway_1 : decode b_S_takeAway 1 = .ok (.dup, 1) := by decide +kernel
theorem d_S_takeAway_2 : decode b_S_takeAway 2 = .ok (.getfield 15, 3) := by decide +kernel
theorem d_S_takeAway_5 : decode b_S_takeAway 5 = .ok (.iload_n 1, 1) := by decide +kernel
theorem d_S_takeAway_6 : decode b_S_takeAway 6 = .ok (.invokestatic 30, 3) := by decide +kernel
theorem d_S_takeAway_9 : decode b_S_takeAway 9 = .ok (.ldc2_w 34, 3) := by decide +kernel
theorem d_S_takeAway_12 : decode b_S_takeAway 12 = .ok (.lxor, 1) := by decide +kernel
theorem d_S_takeAway_13 : decode b_S_takeAway 13 = .ok (.land, 1) := by decide +kernel
theorem d_S_takeAway_14 : decode b_S_takeAway 14 = .ok (.putfield 15, 3) := by decide +kernel
theorem d_S_takeAway_17 : decode b_S_takeAway 17 = .ok (.aload_n 0, 1) := by decide +kernel
theorem d_S_takeAway_18 : decode b_S_takeAway 18 = .ok (.dup, 1) := by decide +kernel
theorem d_S_takeAway_19 : decode b_S_takeAway 19 = .ok (.getfield 19, 3) := by decide +kernel
theorem d_S_takeAway_22 : decode b_S_takeAway 22 = .ok (.iload_n 1, 1) := by decide +kernel
theorem d_S_takeAway_23 : decode b_S_takeAway 23 = .ok (.invokestatic 30, 3) := by decide +kernel
theorem d_S_takeAway_26 : decode b_S_takeAway 26 = .ok (.ldc2_w 34, 3) := by decide +kernel
theorem d_S_takeAway_29 : decode b_S_takeAway 29 = .ok (.lxor, 1) := by decide +kernel
theorem d_S_takeAway_30 : decode b_S_takeAway 30 = .ok (.land, 1) := by decide +kernel
theorem d_S_takeAway_31 : decode b_S_takeAway 31 = .ok (.putfield 19, 3) := by decide +kernel
theorem d_S_takeAway_34 : decode b_S_takeAway 34 = .ok (.return_, 1) := by decide +kernel
theorem d_S_copyFiles_0 : decode b_S_copyFiles 0 = .ok (.aload_n 0, 1) := by decide +kernel
theorem d_S_copyFiles_1 : decode b_S_copyFiles 1 = .ok (.aload_n 1, 1) := by decide +kernel
theorem d_S_copyFiles_2 : decode b_S_copyFiles 2 = .ok (.getfield 15, 3) := by decide +kernel
theorem d_S_copyFiles_5 : decode b_S_copyFiles 5 = .ok (.lload_n 2, 1) := by decide +kernel
theorem d_S_copyFiles_6 : decode b_S_copyFiles 6 = .ok (.land, 1) := by decide +kernel
theorem d_S_copyFiles_7 : decode b_S_copyFiles 7 = .ok (.putfield 15, 3) := by decide +kernel
theorem d_S_copyFiles_10 : decode b_S_copyFiles 10 = .ok (.aload_n 0, 1) := by decide +kernel
theorem d_S_copyFiles_11 : decode b_S_copyFiles 11 = .ok (.lconst 0, 1) := by decide +kernel
theorem d_S_copyFiles_12 : decode b_S_copyFiles 12 = .ok (.putfield 19, 3) := by decide +kernel
theorem d_S_copyFiles_15 : decode b_S_copyFiles 15 = .ok (.aload_n 1, 1) := by decide +kernel
theorem d_S_copyFiles_16 : decode b_S_copyFiles 16 = .ok (.getfield 9, 3) := by decide +kernel
theorem d_S_copyFiles_19 : decode b_S_copyFiles 19 = .ok (.iconst 0, 1) := by decide +kernel
theorem d_S_copyFiles_20 : decode b_S_copyFiles 20 = .ok (.aload_n 0, 1) := by decide +kernel
theorem d_S_copyFiles_21 : decode b_S_copyFiles 21 = .ok (.getfield 9, 3) := by decide +kernel
theorem d_S_copyFiles_24 : decode b_S_copyFiles 24 = .ok (.iconst 0, 1) := by decide +kernel
theorem d_S_copyFiles_25 : decode b_S_copyFiles 25 = .ok (.bipush 60, 2) := by decide +kernel
theorem d_S_copyFiles_27 : decode b_S_copyFiles 27 = .ok (.invokestatic 36, 3) := by decide +kernel
theorem d_S_copyFiles_30 : decode b_S_copyFiles 30 = .ok (.return_, 1) := by decide +kernel
theorem d_S_leadsTo_0 : decode b_S_leadsTo 0 = .ok (.iload_n 1, 1) := by decide +kernel
theorem d_S_leadsTo_1 : decode b_S_leadsTo 1 = .ok (.istore_n 2, 1) := by decide +kernel
theorem d_S_leadsTo_2 : decode b_S_leadsTo 2 = .ok (.iconst 0, 1) := by decide +kernel
theorem d_S_leadsTo_3 : decode b_S_leadsTo 3 = .ok (.istore_n 3, 1) := by decide +kernel
theorem d_S_leadsTo_4 : decode b_S_leadsTo 4 = .ok (.iload_n 3, 1) := by decide +kernel
theorem d_S_leadsTo_5 : decode b_S_leadsTo 5 = .ok (.iconst 4, 1) := by decide +kernel
theorem d_S_leadsTo_6 : decode b_S_leadsTo 6 = .ok (.if_icmp .gt 56, 3) := by decide +kernel
theorem d_S_leadsTo_9 : decode b_S_leadsTo 9 = .ok (.iload_n 2, 1) := by decide +kernel
theorem d_S_leadsTo_10 : decode b_S_leadsTo 10 = .ok (.invokestatic 22, 3) := by decide +kernel
theorem d_S_leadsTo_13 : decode b_S_leadsTo 13 = .ok (.ifCond .ne 5, 3) := by decide +kernel
theorem d_S_leadsTo_16 : decode b_S_leadsTo 16 = .ok (.iconst 0, 1) := by decide +kernel
theorem d_S_leadsTo_17 : decode b_S_leadsTo 17 = .ok (.ireturn, 1) := by decide +kernel
theorem d_S_leadsTo_18 : decode b_S_leadsTo 18 = .ok (.aload_n 0, 1) := by decide +kernel
theorem d_S_leadsTo_19 : decode b_S_leadsTo 19 = .ok (.getfield 15, 3) := by decide +kernel
theorem d_S_leadsTo_22 : decode b_S_leadsTo 22 = .ok (.iload_n 2, 1) := by decide +kernel
theorem d_S_leadsTo_23 : decode b_S_leadsTo 23 = .ok (.invokestatic 42, 3) := by decide +kernel
theorem d_S_leadsTo_26 : decode b_S_leadsTo 26 = .ok (.ifCond .eq 10, 3) := by decide +kernel
theorem d_S_leadsTo_29 : decode b_S_leadsTo 29 = .ok (.aload_n 0, 1) := by decide +kernel
theorem d_S_leadsTo_30 : decode b_S_leadsTo 30 = .ok (.getfield 9, 3) := by decide +kernel
theorem d_S_leadsTo_33 : decode b_S_leadsTo 33 = .ok (.iload_n 2, 1) := by decide +kernel
theorem d_S_leadsTo_34 : decode b_S_leadsTo 34 = .ok (.iaload, 1) := by decide +kernel
theorem d_S_leadsTo_35 : decode b_S_leadsTo 35 = .ok (.ireturn, 1) := by decide +kernel
theorem d_S_leadsTo_36 : decode b_S_leadsTo 36 = .ok (.aload_n 0, 1) := by decide +kernel
theorem d_S_leadsTo_37 : decode b_S_leadsTo 37 = .ok (.getfield 19, 3) := by decide +kernel
theorem d_S_leadsTo_40 : decode b_S_leadsTo 40 = .ok (.iload_n 2, 1) := by decide +kernel
theorem d_S_leadsTo_41 : decode b_S_leadsTo 41 = .ok (.invokestatic 42, 3) := by decide +kernel
theorem d_S_leadsTo_44 : decode b_S_leadsTo 44 = .ok (.ifCond .ne 5, 3) := by decide +kernel
theorem d_S_leadsTo_47 : decode b_S_leadsTo 47 = .ok (.iconst 0, 1) := by decide +kernel
theorem d_S_leadsTo_48 : decode b_S_leadsTo 48 = .ok (.ireturn, 1) := by decide +kernel
theorem d_S_leadsTo_49 : decode b_S_leadsTo 49 = .ok (.aload_n 0, 1) := by decide +kernel
theorem d_S_leadsTo_50 : decode b_S_leadsTo 50 = .ok (.getfield 9, 3) := by decide +kernel
theorem d_S_leadsTo_53 : decode b_S_leadsTo 53 = .ok (.iload_n 2, 1) := by decide +kernel
theorem d_S_leadsTo_54 : decode b_S_leadsTo 54 = .ok (.iaload, 1) := by decide +kernel
theorem d_S_leadsTo_55 : decode b_S_leadsTo 55 = .ok (.istore_n 2, 1) := by decide +kernel
theorem d_S_leadsTo_56 : decode b_S_leadsTo 56 = .ok (.iinc 3 1, 3) := by decide +kernel
theorem d_S_leadsTo_59 : decode b_S_leadsTo 59 = .ok (.goto (-55), 3) := by decide +kernel
theorem d_S_leadsTo_62 : decode b_S_leadsTo 62 = .ok (.iconst 0, 1) := by decide +kernel
theorem d_S_leadsTo_63 : decode b_S_leadsTo 63 = .ok (.ireturn, 1) := by decide +kernel
theorem d_S_hasLooseLink_0 : decode b_S_hasLooseLink 0 = .ok (.iconst 0, 1) := by decide +kernel
theorem d_S_hasLooseLink_1 : decode b_S_hasLooseLink 1 = .ok (.istore_n 3, 1) := by decide +kernel
theorem d_S_hasLooseLink_2 : decode b_S_hasLooseLink 2 = .ok (.iload_n 3, 1) := by decide +kernel
theorem d_S_hasLooseLink_3 : decode b_S_hasLooseLink 3 = .ok (.bipush 60, 2) := by decide +kernel
theorem d_S_hasLooseLink_5 : decode b_S_hasLooseLink 5 = .ok (.if_icmp .ge 32, 3) := by decide +kernel
theorem d_S_hasLooseLink_8 : decode b_S_hasLooseLink 8 = .ok (.aload_n 0, 1) := by decide +kernel
theorem d_S_hasLooseLink_9 : decode b_S_hasLooseLink 9 = .ok (.getfield 19, 3) := by decide +kernel
theorem d_S_hasLooseLink_12 : decode b_S_hasLooseLink 12 = .ok (.lload_n 1, 1) := by decide +kernel
theorem d_S_hasLooseLink_13 : decode b_S_hasLooseLink 13 = .ok (.land, 1) := by decide +kernel
theorem d_S_hasLooseLink_14 : decode b_S_hasLooseLink 14 = .ok (.iload_n 3, 1) := by decide +kernel
theorem d_S_hasLooseLink_15 : decode b_S_hasLooseLink 15 = .ok (.invokestatic 42, 3) := by decide +kernel
theorem d_S_hasLooseLink_18 : decode b_S_hasLooseLink 18 = .ok (.ifCond .eq 13, 3) := by decide +kernel
theorem d_S_hasLooseLink_21 : decode b_S_hasLooseLink 21 = .ok (.aload_n 0, 1) := by decide +kernel
theorem d_S_hasLooseLink_22 : decode b_S_hasLooseLink 22 = .ok (.iload_n 3, 1) := by decide +kernel
theorem d_S_hasLooseLink_23 : decode b_S_hasLooseLink 23 = .ok (.invokevirtual 46, 3) := by decide +kernel
theorem d_S_hasLooseLink_26 : decode b_S_hasLooseLink 26 = .ok (.ifCond .ne 5, 3) := by decide +kernel
theorem d_S_hasLooseLink_29 : decode b_S_hasLooseLink 29 = .ok (.iconst 1, 1) := by decide +kernel
theorem d_S_hasLooseLink_30 : decode b_S_hasLooseLink 30 = .ok (.ireturn, 1) := by decide +kernel
theorem d_S_hasLooseLink_31 : decode b_S_hasLooseLink 31 = .ok (.iinc 3 1, 3) := by decide +kernel
theorem d_S_hasLooseLink_34 : decode b_S_hasLooseLink 34 = .ok (.goto (-32), 3) := by decide +kernel
theorem d_S_hasLooseLink_37 : decode b_S_hasLooseLink 37 = .ok (.iconst 0, 1) := by decide +kernel
theorem d_S_hasLooseLink_38 : decode b_S_hasLooseLink 38 = .ok (.ireturn, 1) := by decide +kernel
theorem d_S_canHold_0 : decode b_S_canHold 0 = .ok (.iload_n 0, 1) := by decide +kernel
theorem d_S_canHold_1 : decode b_S_canHold 1 = .ok (.ifCond .lt 13, 3) := by decide +kernel
theorem d_S_canHold_4 : decode b_S_canHold 4 = .ok (.iload_n 0, 1) := by decide +kernel
theorem d_S_canHold_5 : decode b_S_canHold 5 = .ok (.bipush 60, 2) := by decide +kernel
theorem d_S_canHold_7 : decode b_S_canHold 7 = .ok (.if_icmp .ge 7, 3) := by decide +kernel
theorem d_S_canHold_10 : decode b_S_canHold 10 = .ok (.iconst 1, 1) := by decide +kernel
theorem d_S_canHold_11 : decode b_S_canHold 11 = .ok (.goto 4, 3) := by decide +kernel
theorem d_S_canHold_14 : decode b_S_canHold 14 = .ok (.iconst 0, 1) := by decide +kernel
theorem d_S_canHold_15 : decode b_S_canHold 15 = .ok (.ireturn, 1) := by decide +kernel
end
section
theorem d_L_cell_0 : decode b_L_cell 0 = .ok (.iload_n 1, 1) := by decide +kernel
theorem d_L_cell_1 : decode b_L_cell 1 = .ok (.aload_n 0, 1) := by decide +kernel
theorem d_L_cell_2 : decode b_L_cell 2 = .ok (.arraylength, 1) := by decide +kernel
theorem d_L_cell_3 : decode b_L_cell 3 = .ok (.if_icmp .ge 9, 3) := by decide +kernel
theorem d_L_cell_6 : decode b_L_cell 6 = .ok (.aload_n 0, 1) := by decide +kernel
theorem d_L_cell_7 : decode b_L_cell 7 = .ok (.iload_n 1, 1) := by decide +kernel
theorem d_L_cell_8 : decode b_L_cell 8 = .ok (.iaload, 1) := by decide +kernel
theorem d_L_cell_9 : decode b_L_cell 9 = .ok (.goto 4, 3) := by decide +kernel
theorem d_L_cell_12 : decode b_L_cell 12 = .ok (.iconst 0, 1) := by decide +kernel
theorem d_L_cell_13 : decode b_L_cell 13 = .ok (.ireturn, 1) := by decide +kernel
theorem d_L_law_0 : decode b_L_law 0 = .ok (.new 7, 3) := by decide +kernel
theorem d_L_law_3 : decode b_L_law 3 = .ok (.dup, 1) := by decide +kernel
theorem d_L_law_4 : decode b_L_law 4 = .ok (.aload_n 0, 1) := by decide +kernel
theorem d_L_law_5 : decode b_L_law 5 = .ok (.iconst 0, 1) := by decide +kernel
theorem d_L_law_6 : decode b_L_law 6 = .ok (.invokestatic 9, 3) := by decide +kernel
theorem d_L_law_9 : decode b_L_law 9 = .ok (.invokespecial 15, 3) := by decide +kernel
theorem d_L_law_12 : decode b_L_law 12 = .ok (.astore_n 1, 1) := by decide +kernel
theorem d_L_law_13 : decode b_L_law 13 = .ok (.new 18, 3) := by decide +kernel
theorem d_L_law_16 : decode b_L_law 16 = .ok (.dup, 1) := by decide +kernel
theorem d_L_law_17 : decode b_L_law 17 = .ok (.aload_n 0, 1) := by decide +kernel
theorem d_L_law_18 : decode b_L_law 18 = .ok (.iconst 0, 1) := by decide +kernel
theorem d_L_law_19 : decode b_L_law 19 = .ok (.invokestatic 9, 3) := by decide +kernel
theorem d_L_law_22 : decode b_L_law 22 = .ok (.invokespecial 20, 3) := by decide +kernel
theorem d_L_law_25 : decode b_L_law 25 = .ok (.astore_n 2, 1) := by decide +kernel
theorem d_L_law_26 : decode b_L_law 26 = .ok (.iconst 1, 1) := by decide +kernel
theorem d_L_law_27 : decode b_L_law 27 = .ok (.istore_n 3, 1) := by decide +kernel
theorem d_L_law_28 : decode b_L_law 28 = .ok (.iload_n 3, 1) := by decide +kernel
theorem d_L_law_29 : decode b_L_law 29 = .ok (.aload_n 0, 1) := by decide +kernel
theorem d_L_law_30 : decode b_L_law 30 = .ok (.arraylength, 1) := by decide +kernel
theorem d_L_law_31 : decode b_L_law 31 = .ok (.iconst 4, 1) := by decide +kernel
theorem d_L_law_32 : decode b_L_law 32 = .ok (.isub, 1) := by decide +kernel
theorem d_L_law_33 : decode b_L_law 33 = .ok (.if_icmp .gt 622, 3) := by decide +kernel
theorem d_L_law_36 : decode b_L_law 36 = .ok (.aload_n 0, 1) := by decide +kernel
theorem d_L_law_37 : decode b_L_law 37 = .ok (.iload_n 3, 1) := by decide +kernel
theorem d_L_law_38 : decode b_L_law 38 = .ok (.iaload, 1) := by decide +kernel
theorem d_L_law_39 : decode b_L_law 39 = .ok (.bipush 15, 2) := by decide +kernel
theorem d_L_law_41 : decode b_L_law 41 = .ok (.iand, 1) := by decide +kernel
theorem d_L_law_42 : decode b_L_law 42 = .ok (.tableswitch 607 0 14 #[74, 109, 142, 165, 178, 237, 274, 297, 330, 373, 416, 449, 492, 541, 574], 74) := by decide +kernel
theorem d_L_law_116 : decode b_L_law 116 = .ok (.aload_n 1, 1) := by decide +kernel
theorem d_L_law_117 : decode b_L_law 117 = .ok (.aload_n 0, 1) := by decide +kernel
theorem d_L_law_118 : decode b_L_law 118 = .ok (.iload_n 3, 1) := by decide +kernel
theorem d_L_law_119 : decode b_L_law 119 = .ok (.iconst 1, 1) := by decide +kernel
theorem d_L_law_120 : decode b_L_law 120 = .ok (.iadd, 1) := by decide +kernel
theorem d_L_law_121 : decode b_L_law 121 = .ok (.iaload, 1) := by decide +kernel
theorem d_L_law_122 : decode b_L_law 122 = .ok (.aload_n 0, 1) := by decide +kernel
theorem d_L_law_123 : decode b_L_law 123 = .ok (.iload_n 3, 1) := by decide +kernel
theorem d_L_law_124 : decode b_L_law 124 = .ok (.iconst 2, 1) := by decide +kernel
theorem d_L_law_125 : decode b_L_law 125 = .ok (.iadd, 1) := by decide +kernel
theorem d_L_law_126 : decode b_L_law 126 = .ok (.iaload, 1) := by decide +kernel
theorem d_L_law_127 : decode b_L_law 127 = .ok (.i2c, 1) := by decide +kernel
theorem d_L_law_128 : decode b_L_law 128 = .ok (.invokevirtual 21, 3) := by decide +kernel
theorem d_L_law_131 : decode b_L_law 131 = .ok (.aload_n 2, 1) := by decide +kernel
theorem d_L_law_132 : decode b_L_law 132 = .ok (.aload_n 0, 1) := by decide +kernel
theorem d_L_law_133 : decode b_L_law 133 = .ok (.iload_n 3, 1) := by decide +kernel
theorem d_L_law_134 : decode b_L_law 134 = .ok (.iconst 1, 1) := by decide +kernel
theorem d_L_law_135 : decode b_L_law 135 = .ok (.iadd, 1) := by decide +kernel
theorem d_L_law_136 : decode b_L_law 136 = .ok (.iaload, 1) := by decide +kernel
theorem d_L_law_137 : decode b_L_law 137 = .ok (.aload_n 0, 1) := by decide +kernel
theorem d_L_law_138 : decode b_L_law 138 = .ok (.iload_n 3, 1) := by decide +kernel
theorem d_L_law_139 : decode b_L_law 139 = .ok (.iconst 2, 1) := by decide +kernel
theorem d_L_law_140 : decode b_L_law 140 = .ok (.iadd, 1) := by decide +kernel
theorem d_L_law_141 : decode b_L_law 141 = .ok (.iaload, 1) := by decide +kernel
theorem d_L_law_142 : decode b_L_law 142 = .ok (.i2c, 1) := by decide +kernel
theorem d_L_law_143 : decode b_L_law 143 = .ok (.invokevirtual 25, 3) := by decide +kernel
theorem d_L_law_146 : decode b_L_law 146 = .ok (.if_icmp .eq 503, 3) := by decide +kernel
theorem d_L_law_149 : decode b_L_law 149 = .ok (.iconst 0, 1) := by decide +kernel
theorem d_L_law_150 : decode b_L_law 150 = .ok (.ireturn, 1) := by decide +kernel
theorem d_L_law_151 : decode b_L_law 151 = .ok (.aload_n 1, 1) := by decide +kernel
theorem d_L_law_152 : decode b_L_law 152 = .ok (.aload_n 0, 1) := by decide +kernel
theorem d_L_law_153 : decode b_L_law 153 = .ok (.iload_n 3, 1) := by decide +kernel
theorem d_L_law_154 : decode b_L_law 154 = .ok (.iconst 1, 1) := by decide +kernel
theorem d_L_law_155 : decode b_L_law 155 = .ok (.iadd, 1) := by decide +kernel
theorem d_L_law_156 : decode b_L_law 156 = .ok (.iaload, 1) := by decide +kernel
theorem d_L_law_157 : decode b_L_law 157 = .ok (.aload_n 0, 1) := by decide +kernel
theorem d_L_law_158 : decode b_L_law 158 = .ok (.iload_n 3, 1) := by decide +kernel
theorem d_L_law_159 : decode b_L_law 159 = .ok (.iconst 2, 1) := by decide +kernel
theorem d_L_law_160 : decode b_L_law 160 = .ok (.iadd, 1) := by decide +kernel
theorem d_L_law_161 : decode b_L_law 161 = .ok (.iaload, 1) := by decide +kernel
theorem d_L_law_162 : decode b_L_law 162 = .ok (.invokevirtual 26, 3) := by decide +kernel
theorem d_L_law_165 : decode b_L_law 165 = .ok (.aload_n 2, 1) := by decide +kernel
theorem d_L_law_166 : decode b_L_law 166 = .ok (.aload_n 0, 1) := by decide +kernel
theorem d_L_law_167 : decode b_L_law 167 = .ok (.iload_n 3, 1) := by decide +kernel
theorem d_L_law_168 : decode b_L_law 168 = .ok (.iconst 1, 1) := by decide +kernel
theorem d_L_law_169 : decode b_L_law 169 = .ok (.iadd, 1) := by decide +kernel
theorem d_L_law_170 : decode b_L_law 170 = .ok (.iaload, 1) := by decide +kernel
theorem d_L_law_171 : decode b_L_law 171 = .ok (.aload_n 0, 1) := by decide +kernel
theorem d_L_law_172 : decode b_L_law 172 = .ok (.iload_n 3, 1) := by decide +kernel
theorem d_L_law_173 : decode b_L_law 173 = .ok (.iconst 2, 1) := by decide +kernel
theorem d_L_law_174 : decode b_L_law 174 = .ok (.iadd, 1) := by decide +kernel
theorem d_L_law_175 : decode b_L_law 175 = .ok (.iaload, 1) := by decide +kernel
theorem d_L_law_176 : decode b_L_law 176 = .ok (.invokevirtual 30, 3) := by decide +kernel
theorem d_L_law_179 : decode b_L_law 179 = .ok (.if_icmp .eq 470, 3) := by decide +kernel
theorem d_L_law_182 : decode b_L_law 182 = .ok (.iconst 0, 1) := by decide +kernel
theorem d_L_law_183 : decode b_L_law 183 = .ok (.ireturn, 1) := by decide +kernel
theorem d_L_law_184 : decode b_L_law 184 = .ok (.aload_n 1, 1) := by decide +kernel
theorem d_L_law_185 : decode b_L_law 185 = .ok (.aload_n 0, 1) := by decide +kernel
theorem d_L_law_186 : decode b_L_law 186 = .ok (.iload_n 3, 1) := by decide +kernel
theorem d_L_law_187 : decode b_L_law 187 = .ok (.iconst 1, 1) := by decide +kernel
theorem d_L_law_188 : decode b_L_law 188 = .ok (.iadd, 1) := by decide +kernel
theorem d_L_law_189 : decode b_L_law 189 = .ok (.iaload, 1) := by decide +kernel
theorem d_L_law_190 : decode b_L_law 190 = .ok (.invokevirtual 31, 3) := by decide +kernel
theorem d_L_law_193 : decode b_L_law 193 = .ok (.aload_n 2, 1) := by decide +kernel
theorem d_L_law_194 : decode b_L_law 194 = .ok (.aload_n 0, 1) := by decide +kernel
theorem d_L_law_195 : decode b_L_law 195 = .ok (.iload_n 3, 1) := by decide +kernel
theorem d_L_law_196 : decode b_L_law 196 = .ok (.iconst 1, 1) := by decide +kernel
theorem d_L_law_197 : decode b_L_law 197 = .ok (.iadd, 1) := by decide +kernel
theorem d_L_law_198 : decode b_L_law 198 = .ok (.iaload, 1) := by decide +kernel
theorem d_L_law_199 : decode b_L_law 199 = .ok (.invokevirtual 35, 3) := by decide +kernel
theorem d_L_law_202 : decode b_L_law 202 = .ok (.if_icmp .eq 447, 3) := by decide +kernel
theorem d_L_law_205 : decode b_L_law 205 = .ok (.iconst 0, 1) := by decide +kernel
theorem d_L_law_206 : decode b_L_law 206 = .ok (.ireturn, 1) := by decide +kernel
theorem d_L_law_207 : decode b_L_law 207 = .ok (.aload_n 1, 1) := by decide +kernel
theorem d_L_law_208 : decode b_L_law 208 = .ok (.invokevirtual 36, 3) := by decide +kernel
theorem d_L_law_211 : decode b_L_law 211 = .ok (.aload_n 2, 1) := by decide +kernel
theorem d_L_law_212 : decode b_L_law 212 = .ok (.invokevirtual 40, 3) := by decide +kernel
theorem d_L_law_215 : decode b_L_law 215 = .ok (.if_icmp .eq 434, 3) := by decide +kernel
theorem d_L_law_218 : decode b_L_law 218 = .ok (.iconst 0, 1) := by decide +kernel
theorem d_L_law_219 : decode b_L_law 219 = .ok (.ireturn, 1) := by decide +kernel
theorem d_L_law_220 : decode b_L_law 220 = .ok (.aload_n 1, 1) := by decide +kernel
theorem d_L_law_221 : decode b_L_law 221 = .ok (.aload_n 0, 1) := by decide +kernel
theorem d_L_law_222 : decode b_L_law 222 = .ok (.iload_n 3, 1) := by decide +kernel
theorem d_L_law_223 : decode b_L_law 223 = .ok (.iconst 1, 1) := by decide +kernel
theorem d_L_law_224 : decode b_L_law 224 = .ok (.iadd, 1) := by decide +kernel
theorem d_L_law_225 : decode b_L_law 225 = .ok (.iaload, 1) := by decide +kernel
theorem d_L_law_226 : decode b_L_law 226 = .ok (.aload_n 0, 1) := by decide +kernel
theorem d_L_law_227 : decode b_L_law 227 = .ok (.iload_n 3, 1) := by decide +kernel
theorem d_L_law_228 : decode b_L_law 228 = .ok (.iconst 2, 1) := by decide +kernel
theorem d_L_law_229 : decode b_L_law 229 = .ok (.iadd, 1) := by decide +kernel
theorem d_L_law_230 : decode b_L_law 230 = .ok (.iaload, 1) := by decide +kernel
theorem d_L_law_231 : decode b_L_law 231 = .ok (.aload_n 0, 1) := by decide +kernel
theorem d_L_law_232 : decode b_L_law 232 = .ok (.iload_n 3, 1) := by decide +kernel
theorem d_L_law_233 : decode b_L_law 233 = .ok (.iconst 3, 1) := by decide +kernel
theorem d_L_law_234 : decode b_L_law 234 = .ok (.iadd, 1) := by decide +kernel
theorem d_L_law_235 : decode b_L_law 235 = .ok (.iaload, 1) := by decide +kernel
theorem d_L_law_236 : decode b_L_law 236 = .ok (.ifCond .eq 7, 3) := by decide +kernel
theorem d_L_law_239 : decode b_L_law 239 = .ok (.iconst 1, 1) := by decide +kernel
theorem d_L_law_240 : decode b_L_law 240 = .ok (.goto 4, 3) := by decide +kernel
theorem d_L_law_243 : decode b_L_law 243 = .ok (.iconst 0, 1) := by decide +kernel
theorem d_L_law_244 : decode b_L_law 244 = .ok (.invokevirtual 41, 3) := by decide +kernel
theorem d_L_law_247 : decode b_L_law 247 = .ok (.aload_n 2, 1) := by decide +kernel
theorem d_L_law_248 : decode b_L_law 248 = .ok (.aload_n 0, 1) := by decide +kernel
theorem d_L_law_249 : decode b_L_law 249 = .ok (.iload_n 3, 1) := by decide +kernel
theorem d_L_law_250 : decode b_L_law 250 = .ok (.iconst 1, 1) := by decide +kernel
theorem d_L_law_251 : decode b_L_law 251 = .ok (.iadd, 1) := by decide +kernel
theorem d_L_law_252 : decode b_L_law 252 = .ok (.iaload, 1) := by decide +kernel
theorem d_L_law_253 : decode b_L_law 253 = .ok (.aload_n 0, 1) := by decide +kernel
theorem d_L_law_254 : decode b_L_law 254 = .ok (.iload_n 3, 1) := by decide +kernel
theorem d_L_law_255 : decode b_L_law 255 = .ok (.iconst 2, 1) := by decide +kernel
theorem d_L_law_256 : decode b_L_law 256 = .ok (.iadd, 1) := by decide +kernel
theorem d_L_law_257 : decode b_L_law 257 = .ok (.iaload, 1) := by decide +kernel
theorem d_L_law_258 : decode b_L_law 258 = .ok (.aload_n 0, 1) := by decide +kernel
theorem d_L_law_259 : decode b_L_law 259 = .ok (.iload_n 3, 1) := by decide +kernel
theorem d_L_law_260 : decode b_L_law 260 = .ok (.iconst 3, 1) := by decide +kernel
theorem d_L_law_261 : decode b_L_law 261 = .ok (.iadd, 1) := by decide +kernel
theorem d_L_law_262 : decode b_L_law 262 = .ok (.iaload, 1) := by decide +kernel
theorem d_L_law_263 : decode b_L_law 263 = .ok (.ifCond .eq 7, 3) := by decide +kernel
theorem d_L_law_266 : decode b_L_law 266 = .ok (.iconst 1, 1) := by decide +kernel
theorem d_L_law_267 : decode b_L_law 267 = .ok (.goto 4, 3) := by decide +kernel
theorem d_L_law_270 : decode b_L_law 270 = .ok (.iconst 0, 1) := by decide +kernel
theorem d_L_law_271 : decode b_L_law 271 = .ok (.invokevirtual 45, 3) := by decide +kernel
theorem d_L_law_274 : decode b_L_law 274 = .ok (.if_icmp .eq 375, 3) := by decide +kernel
theorem d_L_law_277 : decode b_L_law 277 = .ok (.iconst 0, 1) := by decide +kernel
theorem d_L_law_278 : decode b_L_law 278 = .ok (.ireturn, 1) := by decide +kernel
theorem d_L_law_279 : decode b_L_law 279 = .ok (.aload_n 1, 1) := by decide +kernel
theorem d_L_law_280 : decode b_L_law 280 = .ok (.aload_n 0, 1) := by decide +kernel
theorem d_L_law_281 : decode b_L_law 281 = .ok (.iload_n 3, 1) := by decide +kernel
theorem d_L_law_282 : decode b_L_law 282 = .ok (.iconst 1, 1) := by decide +kernel
theorem d_L_law_283 : decode b_L_law 283 = .ok (.iadd, 1) := by decide +kernel
theorem d_L_law_284 : decode b_L_law 284 = .ok (.iaload, 1) := by decide +kernel
theorem d_L_law_285 : decode b_L_law 285 = .ok (.ifCond .eq 7, 3) := by decide +kernel
theorem d_L_law_288 : decode b_L_law 288 = .ok (.iconst 1, 1) := by decide +kernel
theorem d_L_law_289 : decode b_L_law 289 = .ok (.goto 4, 3) := by decide +kernel
theorem d_L_law_292 : decode b_L_law 292 = .ok (.iconst 0, 1) := by decide +kernel
theorem d_L_law_293 : decode b_L_law 293 = .ok (.invokevirtual 46, 3) := by decide +kernel
theorem d_L_law_296 : decode b_L_law 296 = .ok (.aload_n 2, 1) := by decide +kernel
theorem d_L_law_297 : decode b_L_law 297 = .ok (.aload_n 0, 1) := by decide +kernel
theorem d_L_law_298 : decode b_L_law 298 = .ok (.iload_n 3, 1) := by decide +kernel
theorem d_L_law_299 : decode b_L_law 299 = .ok (.iconst 1, 1) := by decide +kernel
theorem d_L_law_300 : decode b_L_law 300 = .ok (.iadd, 1) := by decide +kernel
theorem d_L_law_301 : decode b_L_law 301 = .ok (.iaload, 1) := by decide +kernel
theorem d_L_law_302 : decode b_L_law 302 = .ok (.ifCond .eq 7, 3) := by decide +kernel
theorem d_L_law_305 : decode b_L_law 305 = .ok (.iconst 1, 1) := by decide +kernel
theorem d_L_law_306 : decode b_L_law 306 = .ok (.goto 4, 3) := by decide +kernel
theorem d_L_law_309 : decode b_L_law 309 = .ok (.iconst 0, 1) := by decide +kernel
theorem d_L_law_310 : decode b_L_law 310 = .ok (.invokevirtual 50, 3) := by decide +kernel
theorem d_L_law_313 : decode b_L_law 313 = .ok (.goto 336, 3) := by decide +kernel
theorem d_L_law_316 : decode b_L_law 316 = .ok (.aload_n 1, 1) := by decide +kernel
theorem d_L_law_317 : decode b_L_law 317 = .ok (.aload_n 0, 1) := by decide +kernel
theorem d_L_law_318 : decode b_L_law 318 = .ok (.iload_n 3, 1) := by decide +kernel
theorem d_L_law_319 : decode b_L_law 319 = .ok (.iconst 1, 1) := by decide +kernel
theorem d_L_law_320 : decode b_L_law 320 = .ok (.iadd, 1) := by decide +kernel
theorem d_L_law_321 : decode b_L_law 321 = .ok (.iaload, 1) := by decide +kernel
theorem d_L_law_322 : decode b_L_law 322 = .ok (.invokevirtual 51, 3) := by decide +kernel
theorem d_L_law_325 : decode b_L_law 325 = .ok (.aload_n 2, 1) := by decide +kernel
theorem d_L_law_326 : decode b_L_law 326 = .ok (.aload_n 0, 1) := by decide +kernel
theorem d_L_law_327 : decode b_L_law 327 = .ok (.iload_n 3, 1) := by decide +kernel
theorem d_L_law_328 : decode b_L_law 328 = .ok (.iconst 1, 1) := by decide +kernel
theorem d_L_law_329 : decode b_L_law 329 = .ok (.iadd, 1) := by decide +kernel
theorem d_L_law_330 : decode b_L_law 330 = .ok (.iaload, 1) := by decide +kernel
theorem d_L_law_331 : decode b_L_law 331 = .ok (.invokevirtual 54, 3) := by decide +kernel
theorem d_L_law_334 : decode b_L_law 334 = .ok (.if_icmp .eq 315, 3) := by decide +kernel
theorem d_L_law_337 : decode b_L_law 337 = .ok (.iconst 0, 1) := by decide +kernel
theorem d_L_law_338 : decode b_L_law 338 = .ok (.ireturn, 1) := by decide +kernel
theorem d_L_law_339 : decode b_L_law 339 = .ok (.aload_n 1, 1) := by decide +kernel
theorem d_L_law_340 : decode b_L_law 340 = .ok (.aload_n 0, 1) := by decide +kernel
theorem d_L_law_341 : decode b_L_law 341 = .ok (.iload_n 3, 1) := by decide +kernel
theorem d_L_law_342 : decode b_L_law 342 = .ok (.iconst 1, 1) := by decide +kernel
theorem d_L_law_343 : decode b_L_law 343 = .ok (.iadd, 1) := by decide +kernel
theorem d_L_law_344 : decode b_L_law 344 = .ok (.iaload, 1) := by decide +kernel
theorem d_L_law_345 : decode b_L_law 345 = .ok (.aload_n 0, 1) := by decide +kernel
theorem d_L_law_346 : decode b_L_law 346 = .ok (.iload_n 3, 1) := by decide +kernel
theorem d_L_law_347 : decode b_L_law 347 = .ok (.iconst 2, 1) := by decide +kernel
theorem d_L_law_348 : decode b_L_law 348 = .ok (.iadd, 1) := by decide +kernel
theorem d_L_law_349 : decode b_L_law 349 = .ok (.iaload, 1) := by decide +kernel
theorem d_L_law_350 : decode b_L_law 350 = .ok (.invokevirtual 55, 3) := by decide +kernel
theorem d_L_law_353 : decode b_L_law 353 = .ok (.aload_n 2, 1) := by decide +kernel
theorem d_L_law_354 : decode b_L_law 354 = .ok (.aload_n 0, 1) := by decide +kernel
theorem d_L_law_355 : decode b_L_law 355 = .ok (.iload_n 3, 1) := by decide +kernel
theorem d_L_law_356 : decode b_L_law 356 = .ok (.iconst 1, 1) := by decide +kernel
theorem d_L_law_357 : decode b_L_law 357 = .ok (.iadd, 1) := by decide +kernel
theorem d_L_law_358 : decode b_L_law 358 = .ok (.iaload, 1) := by decide +kernel
theorem d_L_law_359 : decode b_L_law 359 = .ok (.aload_n 0, 1) := by decide +kernel
theorem d_L_law_360 : decode b_L_law 360 = .ok (.iload_n 3, 1) := by decide +kernel
theorem d_L_law_361 : decode b_L_law 361 = .ok (.iconst 2, 1) := by decide +kernel
theorem d_L_law_362 : decode b_L_law 362 = .ok (.iadd, 1) := by decide +kernel
theorem d_L_law_363 : decode b_L_law 363 = .ok (.iaload, 1) := by decide +kernel
theorem d_L_law_364 : decode b_L_law 364 = .ok (.invokevirtual 59, 3) := by decide +kernel
theorem d_L_law_367 : decode b_L_law 367 = .ok (.if_icmp .eq 282, 3) := by decide +kernel
theorem d_L_law_370 : decode b_L_law 370 = .ok (.iconst 0, 1) := by decide +kernel
theorem d_L_law_371 : decode b_L_law 371 = .ok (.ireturn, 1) := by decide +kernel
theorem d_L_law_372 : decode b_L_law 372 = .ok (.aload_n 1, 1) := by decide +kernel
theorem d_L_law_373 : decode b_L_law 373 = .ok (.aload_n 0, 1) := by decide +kernel
theorem d_L_law_374 : decode b_L_law 374 = .ok (.iload_n 3, 1) := by decide +kernel
theorem d_L_law_375 : decode b_L_law 375 = .ok (.iconst 1, 1) := by decide +kernel
theorem d_L_law_376 : decode b_L_law 376 = .ok (.iadd, 1) := by decide +kernel
theorem d_L_law_377 : decode b_L_law 377 = .ok (.iaload, 1) := by decide +kernel
theorem d_L_law_378 : decode b_L_law 378 = .ok (.aload_n 0, 1) := by decide +kernel
theorem d_L_law_379 : decode b_L_law 379 = .ok (.iload_n 3, 1) := by decide +kernel
theorem d_L_law_380 : decode b_L_law 380 = .ok (.iconst 2, 1) := by decide +kernel
theorem d_L_law_381 : decode b_L_law 381 = .ok (.iadd, 1) := by decide +kernel
theorem d_L_law_382 : decode b_L_law 382 = .ok (.iaload, 1) := by decide +kernel
theorem d_L_law_383 : decode b_L_law 383 = .ok (.aload_n 0, 1) := by decide +kernel
theorem d_L_law_384 : decode b_L_law 384 = .ok (.iload_n 3, 1) := by decide +kernel
theorem d_L_law_385 : decode b_L_law 385 = .ok (.iconst 3, 1) := by decide +kernel
theorem d_L_law_386 : decode b_L_law 386 = .ok (.iadd, 1) := by decide +kernel
theorem d_L_law_387 : decode b_L_law 387 = .ok (.iaload, 1) := by decide +kernel
theorem d_L_law_388 : decode b_L_law 388 = .ok (.invokevirtual 60, 3) := by decide +kernel
theorem d_L_law_391 : decode b_L_law 391 = .ok (.aload_n 2, 1) := by decide +kernel
theorem d_L_law_392 : decode b_L_law 392 = .ok (.aload_n 0, 1) := by decide +kernel
theorem d_L_law_393 : decode b_L_law 393 = .ok (.iload_n 3, 1) := by decide +kernel
theorem d_L_law_394 : decode b_L_law 394 = .ok (.iconst 1, 1) := by decide +kernel
theorem d_L_law_395 : decode b_L_law 395 = .ok (.iadd, 1) := by decide +kernel
theorem d_L_law_396 : decode b_L_law 396 = .ok (.iaload, 1) := by decide +kernel
theorem d_L_law_397 : decode b_L_law 397 = .ok (.aload_n 0, 1) := by decide +kernel
theorem d_L_law_398 : decode b_L_law 398 = .ok (.iload_n 3, 1) := by decide +kernel
theorem d_L_law_399 : decode b_L_law 399 = .ok (.iconst 2, 1) := by decide +kernel
theorem d_L_law_400 : decode b_L_law 400 = .ok (.iadd, 1) := by decide +kernel
theorem d_L_law_401 : decode b_L_law 401 = .ok (.iaload, 1) := by decide +kernel
theorem d_L_law_402 : decode b_L_law 402 = .ok (.aload_n 0, 1) := by decide +kernel
theorem d_L_law_403 : decode b_L_law 403 = .ok (.iload_n 3, 1) := by decide +kernel
theorem d_L_law_404 : decode b_L_law 404 = .ok (.iconst 3, 1) := by decide +kernel
theorem d_L_law_405 : decode b_L_law 405 = .ok (.iadd, 1) := by decide +kernel
theorem d_L_law_406 : decode b_L_law 406 = .ok (.iaload, 1) := by decide +kernel
theorem d_L_law_407 : decode b_L_law 407 = .ok (.invokevirtual 64, 3) := by decide +kernel
theorem d_L_law_410 : decode b_L_law 410 = .ok (.if_icmp .eq 239, 3) := by decide +kernel
theorem d_L_law_413 : decode b_L_law 413 = .ok (.iconst 0, 1) := by decide +kernel
theorem d_L_law_414 : decode b_L_law 414 = .ok (.ireturn, 1) := by decide +kernel
theorem d_L_law_415 : decode b_L_law 415 = .ok (.aload_n 1, 1) := by decide +kernel
theorem d_L_law_416 : decode b_L_law 416 = .ok (.aload_n 0, 1) := by decide +kernel
theorem d_L_law_417 : decode b_L_law 417 = .ok (.iload_n 3, 1) := by decide +kernel
theorem d_L_law_418 : decode b_L_law 418 = .ok (.iconst 1, 1) := by decide +kernel
theorem d_L_law_419 : decode b_L_law 419 = .ok (.iadd, 1) := by decide +kernel
theorem d_L_law_420 : decode b_L_law 420 = .ok (.iaload, 1) := by decide +kernel
theorem d_L_law_421 : decode b_L_law 421 = .ok (.aload_n 0, 1) := by decide +kernel
theorem d_L_law_422 : decode b_L_law 422 = .ok (.iload_n 3, 1) := by decide +kernel
theorem d_L_law_423 : decode b_L_law 423 = .ok (.iconst 2, 1) := by decide +kernel
theorem d_L_law_424 : decode b_L_law 424 = .ok (.iadd, 1) := by decide +kernel
theorem d_L_law_425 : decode b_L_law 425 = .ok (.iaload, 1) := by decide +kernel
theorem d_L_law_426 : decode b_L_law 426 = .ok (.aload_n 0, 1) := by decide +kernel
theorem d_L_law_427 : decode b_L_law 427 = .ok (.iload_n 3, 1) := by decide +kernel
theorem d_L_law_428 : decode b_L_law 428 = .ok (.iconst 3, 1) := by decide +kernel
theorem d_L_law_429 : decode b_L_law 429 = .ok (.iadd, 1) := by decide +kernel
theorem d_L_law_430 : decode b_L_law 430 = .ok (.iaload, 1) := by decide +kernel
theorem d_L_law_431 : decode b_L_law 431 = .ok (.invokevirtual 65, 3) := by decide +kernel
theorem d_L_law_434 : decode b_L_law 434 = .ok (.aload_n 2, 1) := by decide +kernel
theorem d_L_law_435 : decode b_L_law 435 = .ok (.aload_n 0, 1) := by decide +kernel
theorem d_L_law_436 : decode b_L_law 436 = .ok (.iload_n 3, 1) := by decide +kernel
theorem d_L_law_437 : decode b_L_law 437 = .ok (.iconst 1, 1) := by decide +kernel
theorem d_L_law_438 : decode b_L_law 438 = .ok (.iadd, 1) := by decide +kernel
theorem d_L_law_439 : decode b_L_law 439 = .ok (.iaload, 1) := by decide +kernel
theorem d_L_law_440 : decode b_L_law 440 = .ok (.aload_n 0, 1) := by decide +kernel
theorem d_L_law_441 : decode b_L_law 441 = .ok (.iload_n 3, 1) := by decide +kernel
theorem d_L_law_442 : decode b_L_law 442 = .ok (.iconst 2, 1) := by decide +kernel
theorem d_L_law_443 : decode b_L_law 443 = .ok (.iadd, 1) := by decide +kernel
theorem d_L_law_444 : decode b_L_law 444 = .ok (.iaload, 1) := by decide +kernel
theorem d_L_law_445 : decode b_L_law 445 = .ok (.aload_n 0, 1) := by decide +kernel
theorem d_L_law_446 : decode b_L_law 446 = .ok (.iload_n 3, 1) := by decide +kernel
theorem d_L_law_447 : decode b_L_law 447 = .ok (.iconst 3, 1) := by decide +kernel
theorem d_L_law_448 : decode b_L_law 448 = .ok (.iadd, 1) := by decide +kernel
theorem d_L_law_449 : decode b_L_law 449 = .ok (.iaload, 1) := by decide +kernel
theorem d_L_law_450 : decode b_L_law 450 = .ok (.invokevirtual 68, 3) := by decide +kernel
theorem d_L_law_453 : decode b_L_law 453 = .ok (.if_icmp .eq 196, 3) := by decide +kernel
theorem d_L_law_456 : decode b_L_law 456 = .ok (.iconst 0, 1) := by decide +kernel
theorem d_L_law_457 : decode b_L_law 457 = .ok (.ireturn, 1) := by decide +kernel
theorem d_L_law_458 : decode b_L_law 458 = .ok (.aload_n 1, 1) := by decide +kernel
theorem d_L_law_459 : decode b_L_law 459 = .ok (.aload_n 0, 1) := by decide +kernel
theorem d_L_law_460 : decode b_L_law 460 = .ok (.iload_n 3, 1) := by decide +kernel
theorem d_L_law_461 : decode b_L_law 461 = .ok (.iconst 1, 1) := by decide +kernel
theorem d_L_law_462 : decode b_L_law 462 = .ok (.iadd, 1) := by decide +kernel
theorem d_L_law_463 : decode b_L_law 463 = .ok (.iaload, 1) := by decide +kernel
theorem d_L_law_464 : decode b_L_law 464 = .ok (.aload_n 0, 1) := by decide +kernel
theorem d_L_law_465 : decode b_L_law 465 = .ok (.iload_n 3, 1) := by decide +kernel
theorem d_L_law_466 : decode b_L_law 466 = .ok (.iconst 2, 1) := by decide +kernel
theorem d_L_law_467 : decode b_L_law 467 = .ok (.iadd, 1) := by decide +kernel
theorem d_L_law_468 : decode b_L_law 468 = .ok (.iaload, 1) := by decide +kernel
theorem d_L_law_469 : decode b_L_law 469 = .ok (.invokevirtual 69, 3) := by decide +kernel
theorem d_L_law_472 : decode b_L_law 472 = .ok (.aload_n 2, 1) := by decide +kernel
theorem d_L_law_473 : decode b_L_law 473 = .ok (.aload_n 0, 1) := by decide +kernel
theorem d_L_law_474 : decode b_L_law 474 = .ok (.iload_n 3, 1) := by decide +kernel
theorem d_L_law_475 : decode b_L_law 475 = .ok (.iconst 1, 1) := by decide +kernel
theorem d_L_law_476 : decode b_L_law 476 = .ok (.iadd, 1) := by decide +kernel
theorem d_L_law_477 : decode b_L_law 477 = .ok (.iaload, 1) := by decide +kernel
theorem d_L_law_478 : decode b_L_law 478 = .ok (.aload_n 0, 1) := by decide +kernel
theorem d_L_law_479 : decode b_L_law 479 = .ok (.iload_n 3, 1) := by decide +kernel
theorem d_L_law_480 : decode b_L_law 480 = .ok (.iconst 2, 1) := by decide +kernel
theorem d_L_law_481 : decode b_L_law 481 = .ok (.iadd, 1) := by decide +kernel
theorem d_L_law_482 : decode b_L_law 482 = .ok (.iaload, 1) := by decide +kernel
theorem d_L_law_483 : decode b_L_law 483 = .ok (.invokevirtual 72, 3) := by decide +kernel
theorem d_L_law_486 : decode b_L_law 486 = .ok (.if_icmp .eq 163, 3) := by decide +kernel
theorem d_L_law_489 : decode b_L_law 489 = .ok (.iconst 0, 1) := by decide +kernel
theorem d_L_law_490 : decode b_L_law 490 = .ok (.ireturn, 1) := by decide +kernel
theorem d_L_law_491 : decode b_L_law 491 = .ok (.aload_n 1, 1) := by decide +kernel
theorem d_L_law_492 : decode b_L_law 492 = .ok (.aload_n 0, 1) := by decide +kernel
theorem d_L_law_493 : decode b_L_law 493 = .ok (.iload_n 3, 1) := by decide +kernel
theorem d_L_law_494 : decode b_L_law 494 = .ok (.iconst 1, 1) := by decide +kernel
theorem d_L_law_495 : decode b_L_law 495 = .ok (.iadd, 1) := by decide +kernel
theorem d_L_law_496 : decode b_L_law 496 = .ok (.iaload, 1) := by decide +kernel
theorem d_L_law_497 : decode b_L_law 497 = .ok (.aload_n 0, 1) := by decide +kernel
theorem d_L_law_498 : decode b_L_law 498 = .ok (.iload_n 3, 1) := by decide +kernel
theorem d_L_law_499 : decode b_L_law 499 = .ok (.iconst 2, 1) := by decide +kernel
theorem d_L_law_500 : decode b_L_law 500 = .ok (.iadd, 1) := by decide +kernel
theorem d_L_law_501 : decode b_L_law 501 = .ok (.iaload, 1) := by decide +kernel
theorem d_L_law_502 : decode b_L_law 502 = .ok (.aload_n 0, 1) := by decide +kernel
theorem d_L_law_503 : decode b_L_law 503 = .ok (.iload_n 3, 1) := by decide +kernel
theorem d_L_law_504 : decode b_L_law 504 = .ok (.iconst 3, 1) := by decide +kernel
theorem d_L_law_505 : decode b_L_law 505 = .ok (.iadd, 1) := by decide +kernel
theorem d_L_law_506 : decode b_L_law 506 = .ok (.iaload, 1) := by decide +kernel
theorem d_L_law_507 : decode b_L_law 507 = .ok (.invokevirtual 73, 3) := by decide +kernel
theorem d_L_law_510 : decode b_L_law 510 = .ok (.aload_n 2, 1) := by decide +kernel
theorem d_L_law_511 : decode b_L_law 511 = .ok (.aload_n 0, 1) := by decide +kernel
theorem d_L_law_512 : decode b_L_law 512 = .ok (.iload_n 3, 1) := by decide +kernel
theorem d_L_law_513 : decode b_L_law 513 = .ok (.iconst 1, 1) := by decide +kernel
theorem d_L_law_514 : decode b_L_law 514 = .ok (.iadd, 1) := by decide +kernel
theorem d_L_law_515 : decode b_L_law 515 = .ok (.iaload, 1) := by decide +kernel
theorem d_L_law_516 : decode b_L_law 516 = .ok (.aload_n 0, 1) := by decide +kernel
theorem d_L_law_517 : decode b_L_law 517 = .ok (.iload_n 3, 1) := by decide +kernel
theorem d_L_law_518 : decode b_L_law 518 = .ok (.iconst 2, 1) := by decide +kernel
theorem d_L_law_519 : decode b_L_law 519 = .ok (.iadd, 1) := by decide +kernel
theorem d_L_law_520 : decode b_L_law 520 = .ok (.iaload, 1) := by decide +kernel
theorem d_L_law_521 : decode b_L_law 521 = .ok (.aload_n 0, 1) := by decide +kernel
theorem d_L_law_522 : decode b_L_law 522 = .ok (.iload_n 3, 1) := by decide +kernel
theorem d_L_law_523 : decode b_L_law 523 = .ok (.iconst 3, 1) := by decide +kernel
theorem d_L_law_524 : decode b_L_law 524 = .ok (.iadd, 1) := by decide +kernel
theorem d_L_law_525 : decode b_L_law 525 = .ok (.iaload, 1) := by decide +kernel
theorem d_L_law_526 : decode b_L_law 526 = .ok (.invokevirtual 76, 3) := by decide +kernel
theorem d_L_law_529 : decode b_L_law 529 = .ok (.if_icmp .eq 120, 3) := by decide +kernel
theorem d_L_law_532 : decode b_L_law 532 = .ok (.iconst 0, 1) := by decide +kernel
theorem d_L_law_533 : decode b_L_law 533 = .ok (.ireturn, 1) := by decide +kernel
theorem d_L_law_534 : decode b_L_law 534 = .ok (.aload_n 1, 1) := by decide +kernel
theorem d_L_law_535 : decode b_L_law 535 = .ok (.aload_n 0, 1) := by decide +kernel
theorem d_L_law_536 : decode b_L_law 536 = .ok (.iload_n 3, 1) := by decide +kernel
theorem d_L_law_537 : decode b_L_law 537 = .ok (.iconst 1, 1) := by decide +kernel
theorem d_L_law_538 : decode b_L_law 538 = .ok (.iadd, 1) := by decide +kernel
theorem d_L_law_539 : decode b_L_law 539 = .ok (.iaload, 1) := by decide +kernel
theorem d_L_law_540 : decode b_L_law 540 = .ok (.aload_n 0, 1) := by decide +kernel
theorem d_L_law_541 : decode b_L_law 541 = .ok (.iload_n 3, 1) := by decide +kernel
theorem d_L_law_542 : decode b_L_law 542 = .ok (.iconst 2, 1) := by decide +kernel
theorem d_L_law_543 : decode b_L_law 543 = .ok (.iadd, 1) := by decide +kernel
theorem d_L_law_544 : decode b_L_law 544 = .ok (.iaload, 1) := by decide +kernel
theorem d_L_law_545 : decode b_L_law 545 = .ok (.ifCond .eq 7, 3) := by decide +kernel
theorem d_L_law_548 : decode b_L_law 548 = .ok (.iconst 1, 1) := by decide +kernel
theorem d_L_law_549 : decode b_L_law 549 = .ok (.goto 4, 3) := by decide +kernel
theorem d_L_law_552 : decode b_L_law 552 = .ok (.iconst 0, 1) := by decide +kernel
theorem d_L_law_553 : decode b_L_law 553 = .ok (.invokevirtual 77, 3) := by decide +kernel
theorem d_L_law_556 : decode b_L_law 556 = .ok (.aload_n 2, 1) := by decide +kernel
theorem d_L_law_557 : decode b_L_law 557 = .ok (.aload_n 0, 1) := by decide +kernel
theorem d_L_law_558 : decode b_L_law 558 = .ok (.iload_n 3, 1) := by decide +kernel
theorem d_L_law_559 : decode b_L_law 559 = .ok (.iconst 1, 1) := by decide +kernel
theorem d_L_law_560 : decode b_L_law 560 = .ok (.iadd, 1) := by decide +kernel
theorem d_L_law_561 : decode b_L_law 561 = .ok (.iaload, 1) := by decide +kernel
theorem d_L_law_562 : decode b_L_law 562 = .ok (.aload_n 0, 1) := by decide +kernel
theorem d_L_law_563 : decode b_L_law 563 = .ok (.iload_n 3, 1) := by decide +kernel
theorem d_L_law_564 : decode b_L_law 564 = .ok (.iconst 2, 1) := by decide +kernel
theorem d_L_law_565 : decode b_L_law 565 = .ok (.iadd, 1) := by decide +kernel
theorem d_L_law_566 : decode b_L_law 566 = .ok (.iaload, 1) := by decide +kernel
theorem d_L_law_567 : decode b_L_law 567 = .ok (.ifCond .eq 7, 3) := by decide +kernel
theorem d_L_law_570 : decode b_L_law 570 = .ok (.iconst 1, 1) := by decide +kernel
theorem d_L_law_571 : decode b_L_law 571 = .ok (.goto 4, 3) := by decide +kernel
theorem d_L_law_574 : decode b_L_law 574 = .ok (.iconst 0, 1) := by decide +kernel
theorem d_L_law_575 : decode b_L_law 575 = .ok (.invokevirtual 81, 3) := by decide +kernel
theorem d_L_law_578 : decode b_L_law 578 = .ok (.if_icmp .eq 71, 3) := by decide +kernel
theorem d_L_law_581 : decode b_L_law 581 = .ok (.iconst 0, 1) := by decide +kernel
theorem d_L_law_582 : decode b_L_law 582 = .ok (.ireturn, 1) := by decide +kernel
theorem d_L_law_583 : decode b_L_law 583 = .ok (.aload_n 1, 1) := by decide +kernel
theorem d_L_law_584 : decode b_L_law 584 = .ok (.aload_n 0, 1) := by decide +kernel
theorem d_L_law_585 : decode b_L_law 585 = .ok (.iload_n 3, 1) := by decide +kernel
theorem d_L_law_586 : decode b_L_law 586 = .ok (.iconst 1, 1) := by decide +kernel
theorem d_L_law_587 : decode b_L_law 587 = .ok (.iadd, 1) := by decide +kernel
theorem d_L_law_588 : decode b_L_law 588 = .ok (.iaload, 1) := by decide +kernel
theorem d_L_law_589 : decode b_L_law 589 = .ok (.aload_n 0, 1) := by decide +kernel
theorem d_L_law_590 : decode b_L_law 590 = .ok (.iload_n 3, 1) := by decide +kernel
theorem d_L_law_591 : decode b_L_law 591 = .ok (.iconst 2, 1) := by decide +kernel
theorem d_L_law_592 : decode b_L_law 592 = .ok (.iadd, 1) := by decide +kernel
theorem d_L_law_593 : decode b_L_law 593 = .ok (.iaload, 1) := by decide +kernel
theorem d_L_law_594 : decode b_L_law 594 = .ok (.invokevirtual 82, 3) := by decide +kernel
theorem d_L_law_597 : decode b_L_law 597 = .ok (.aload_n 2, 1) := by decide +kernel
theorem d_L_law_598 : decode b_L_law 598 = .ok (.aload_n 0, 1) := by decide +kernel
theorem d_L_law_599 : decode b_L_law 599 = .ok (.iload_n 3, 1) := by decide +kernel
theorem d_L_law_600 : decode b_L_law 600 = .ok (.iconst 1, 1) := by decide +kernel
theorem d_L_law_601 : decode b_L_law 601 = .ok (.iadd, 1) := by decide +kernel
theorem d_L_law_602 : decode b_L_law 602 = .ok (.iaload, 1) := by decide +kernel
theorem d_L_law_603 : decode b_L_law 603 = .ok (.aload_n 0, 1) := by decide +kernel
theorem d_L_law_604 : decode b_L_law 604 = .ok (.iload_n 3, 1) := by decide +kernel
theorem d_L_law_605 : decode b_L_law 605 = .ok (.iconst 2, 1) := by decide +kernel
theorem d_L_law_606 : decode b_L_law 606 = .ok (.iadd, 1) := by decide +kernel
theorem d_L_law_607 : decode b_L_law 607 = .ok (.iaload, 1) := by decide +kernel
theorem d_L_law_608 : decode b_L_law 608 = .ok (.invokevirtual 85, 3) := by decide +kernel
theorem d_L_law_611 : decode b_L_law 611 = .ok (.if_icmp .eq 38, 3) := by decide +kernel
theorem d_L_law_614 : decode b_L_law 614 = .ok (.iconst 0, 1) := by decide +kernel
theorem d_L_law_615 : decode b_L_law 615 = .ok (.ireturn, 1) := by decide +kernel
theorem d_L_law_616 : decode b_L_law 616 = .ok (.aload_n 1, 1) := by decide +kernel
theorem d_L_law_617 : decode b_L_law 617 = .ok (.aload_n 0, 1) := by decide +kernel
theorem d_L_law_618 : decode b_L_law 618 = .ok (.iload_n 3, 1) := by decide +kernel
theorem d_L_law_619 : decode b_L_law 619 = .ok (.iconst 1, 1) := by decide +kernel
theorem d_L_law_620 : decode b_L_law 620 = .ok (.iadd, 1) := by decide +kernel
theorem d_L_law_621 : decode b_L_law 621 = .ok (.iaload, 1) := by decide +kernel
theorem d_L_law_622 : decode b_L_law 622 = .ok (.aload_n 0, 1) := by decide +kernel
theorem d_L_law_623 : decode b_L_law 623 = .ok (.iload_n 3, 1) := by decide +kernel
theorem d_L_law_624 : decode b_L_law 624 = .ok (.iconst 2, 1) := by decide +kernel
theorem d_L_law_625 : decode b_L_law 625 = .ok (.iadd, 1) := by decide +kernel
theorem d_L_law_626 : decode b_L_law 626 = .ok (.iaload, 1) := by decide +kernel
theorem d_L_law_627 : decode b_L_law 627 = .ok (.invokevirtual 86, 3) := by decide +kernel
theorem d_L_law_630 : decode b_L_law 630 = .ok (.aload_n 2, 1) := by decide +kernel
theorem d_L_law_631 : decode b_L_law 631 = .ok (.aload_n 0, 1) := by decide +kernel
theorem d_L_law_632 : decode b_L_law 632 = .ok (.iload_n 3, 1) := by decide +kernel
theorem d_L_law_633 : decode b_L_law 633 = .ok (.iconst 1, 1) := by decide +kernel
theorem d_L_law_634 : decode b_L_law 634 = .ok (.iadd, 1) := by decide +kernel
theorem d_L_law_635 : decode b_L_law 635 = .ok (.iaload, 1) := by decide +kernel
theorem d_L_law_636 : decode b_L_law 636 = .ok (.aload_n 0, 1) := by decide +kernel
theorem d_L_law_637 : decode b_L_law 637 = .ok (.iload_n 3, 1) := by decide +kernel
theorem d_L_law_638 : decode b_L_law 638 = .ok (.iconst 2, 1) := by decide +kernel
theorem d_L_law_639 : decode b_L_law 639 = .ok (.iadd, 1) := by decide +kernel
theorem d_L_law_640 : decode b_L_law 640 = .ok (.iaload, 1) := by decide +kernel
theorem d_L_law_641 : decode b_L_law 641 = .ok (.invokevirtual 89, 3) := by decide +kernel
theorem d_L_law_644 : decode b_L_law 644 = .ok (.if_icmp .eq 5, 3) := by decide +kernel
theorem d_L_law_647 : decode b_L_law 647 = .ok (.iconst 0, 1) := by decide +kernel
theorem d_L_law_648 : decode b_L_law 648 = .ok (.ireturn, 1) := by decide +kernel
theorem d_L_law_649 : decode b_L_law 649 = .ok (.iinc 3 4, 3) := by decide +kernel
theorem d_L_law_652 : decode b_L_law 652 = .ok (.goto (-624), 3) := by decide +kernel
theorem d_L_law_655 : decode b_L_law 655 = .ok (.iconst 1, 1) := by decide +kernel
theorem d_L_law_656 : decode b_L_law 656 = .ok (.ireturn, 1) := by decide +kernel
end
section
theorem d_J_bitCount_0 : decode b_J_bitCount 0 = .ok (.lload_n 0, 1) := by decide +kernel
theorem d_J_bitCount_1 : decode b_J_bitCount 1 = .ok (.lload_n 0, 1) := by decide +kernel
theorem d_J_bitCount_2 : decode b_J_bitCount 2 = .ok (.iconst 1, 1) := by decide +kernel
theorem d_J_bitCount_3 : decode b_J_bitCount 3 = .ok (.lushr, 1) := by decide +kernel
theorem d_J_bitCount_4 : decode b_J_bitCount 4 = .ok (.ldc2_w 314, 3) := by decide +kernel
theorem d_J_bitCount_7 : decode b_J_bitCount 7 = .ok (.land, 1) := by decide +kernel
theorem d_J_bitCount_8 : decode b_J_bitCount 8 = .ok (.lsub, 1) := by decide +kernel
theorem d_J_bitCount_9 : decode b_J_bitCount 9 = .ok (.lstore_n 0, 1) := by decide +kernel
theorem d_J_bitCount_10 : decode b_J_bitCount 10 = .ok (.lload_n 0, 1) := by decide +kernel
theorem d_J_bitCount_11 : decode b_J_bitCount 11 = .ok (.ldc2_w 316, 3) := by decide +kernel
theorem d_J_bitCount_14 : decode b_J_bitCount 14 = .ok (.land, 1) := by decide +kernel
theorem d_J_bitCount_15 : decode b_J_bitCount 15 = .ok (.lload_n 0, 1) := by decide +kernel
theorem d_J_bitCount_16 : decode b_J_bitCount 16 = .ok (.iconst 2, 1) := by decide +kernel
theorem d_J_bitCount_17 : decode b_J_bitCount 17 = .ok (.lushr, 1) := by decide +kernel
theorem d_J_bitCount_18 : decode b_J_bitCount 18 = .ok (.ldc2_w 316, 3) := by decide +kernel
theorem d_J_bitCount_21 : decode b_J_bitCount 21 = .ok (.land, 1) := by decide +kernel
theorem d_J_bitCount_22 : decode b_J_bitCount 22 = .ok (.ladd, 1) := by decide +kernel
theorem d_J_bitCount_23 : decode b_J_bitCount 23 = .ok (.lstore_n 0, 1) := by decide +kernel
theorem d_J_bitCount_24 : decode b_J_bitCount 24 = .ok (.lload_n 0, 1) := by decide +kernel
theorem d_J_bitCount_25 : decode b_J_bitCount 25 = .ok (.lload_n 0, 1) := by decide +kernel
theorem d_J_bitCount_26 : decode b_J_bitCount 26 = .ok (.iconst 4, 1) := by decide +kernel
theorem d_J_bitCount_27 : decode b_J_bitCount 27 = .ok (.lushr, 1) := by decide +kernel
theorem d_J_bitCount_28 : decode b_J_bitCount 28 = .ok (.ladd, 1) := by decide +kernel
theorem d_J_bitCount_29 : decode b_J_bitCount 29 = .ok (.ldc2_w 318, 3) := by decide +kernel
theorem d_J_bitCount_32 : decode b_J_bitCount 32 = .ok (.land, 1) := by decide +kernel
theorem d_J_bitCount_33 : decode b_J_bitCount 33 = .ok (.lstore_n 0, 1) := by decide +kernel
theorem d_J_bitCount_34 : decode b_J_bitCount 34 = .ok (.lload_n 0, 1) := by decide +kernel
theorem d_J_bitCount_35 : decode b_J_bitCount 35 = .ok (.lload_n 0, 1) := by decide +kernel
theorem d_J_bitCount_36 : decode b_J_bitCount 36 = .ok (.bipush 8, 2) := by decide +kernel
theorem d_J_bitCount_38 : decode b_J_bitCount 38 = .ok (.lushr, 1) := by decide +kernel
theorem d_J_bitCount_39 : decode b_J_bitCount 39 = .ok (.ladd, 1) := by decide +kernel
theorem d_J_bitCount_40 : decode b_J_bitCount 40 = .ok (.lstore_n 0, 1) := by decide +kernel
theorem d_J_bitCount_41 : decode b_J_bitCount 41 = .ok (.lload_n 0, 1) := by decide +kernel
theorem d_J_bitCount_42 : decode b_J_bitCount 42 = .ok (.lload_n 0, 1) := by decide +kernel
theorem d_J_bitCount_43 : decode b_J_bitCount 43 = .ok (.bipush 16, 2) := by decide +kernel
theorem d_J_bitCount_45 : decode b_J_bitCount 45 = .ok (.lushr, 1) := by decide +kernel
theorem d_J_bitCount_46 : decode b_J_bitCount 46 = .ok (.ladd, 1) := by decide +kernel
theorem d_J_bitCount_47 : decode b_J_bitCount 47 = .ok (.lstore_n 0, 1) := by decide +kernel
theorem d_J_bitCount_48 : decode b_J_bitCount 48 = .ok (.lload_n 0, 1) := by decide +kernel
theorem d_J_bitCount_49 : decode b_J_bitCount 49 = .ok (.lload_n 0, 1) := by decide +kernel
theorem d_J_bitCount_50 : decode b_J_bitCount 50 = .ok (.bipush 32, 2) := by decide +kernel
theorem d_J_bitCount_52 : decode b_J_bitCount 52 = .ok (.lushr, 1) := by decide +kernel
theorem d_J_bitCount_53 : decode b_J_bitCount 53 = .ok (.ladd, 1) := by decide +kernel
theorem d_J_bitCount_54 : decode b_J_bitCount 54 = .ok (.lstore_n 0, 1) := by decide +kernel
theorem d_J_bitCount_55 : decode b_J_bitCount 55 = .ok (.lload_n 0, 1) := by decide +kernel
theorem d_J_bitCount_56 : decode b_J_bitCount 56 = .ok (.l2i, 1) := by decide +kernel
theorem d_J_bitCount_57 : decode b_J_bitCount 57 = .ok (.bipush 127, 2) := by decide +kernel
theorem d_J_bitCount_59 : decode b_J_bitCount 59 = .ok (.iand, 1) := by decide +kernel
theorem d_J_bitCount_60 : decode b_J_bitCount 60 = .ok (.ireturn, 1) := by decide +kernel
end
section
/-! Pure words: booleans as ints, ranges, 'any', counting; the state of the system as a table of ints. -/
abbrev sx_A : Type := Nat → Nat → Int32
def sx_st (α : sx_A) (i j : Nat) (v : Int32) : sx_A := fun k => bif Nat.beq k i then upd (α i) j v else α k
theorem sx_st_eq {α : sx_A} {i j : Nat} {v : Int32} : sx_st α i j v i = upd (α i) j v := by
  have h : Nat.beq i i = true := Nat.beq_refl i
  simp only [sx_st, h, cond_true]
theorem sx_st_ne {α : sx_A} {i j k : Nat} {v : Int32} (h : k ≠ i) : sx_st α i j v k = α k := by
  have hb : Nat.beq k i = false := by
    cases hq : Nat.beq k i with
    | false => rfl
    | true => exact absurd (Nat.eq_of_beq_eq_true hq) h
  simp only [sx_st, hb, cond_false]
def sx_bI (b : Bool) : Int32 := bif b then 1 else 0
theorem sx_bI0 {b : Bool} (h : sx_bI b = 0) : b = false := by
  cases b with
  | false => rfl
  | true => exact absurd h (by decide)
theorem sx_bIn {b : Bool} (h : ¬ sx_bI b = 0) : b = true := by
  cases b with
  | true => rfl
  | false => exact absurd rfl h
theorem sx_bI0' {b : Bool} : sx_bI b = 0 ↔ b = false := ⟨sx_bI0, fun h => by rw [h]; rfl⟩
theorem sx_bI1' {b : Bool} : sx_bI b = 1 ↔ b = true := ⟨fun h => by cases b with | true => rfl | false => exact absurd h (by decide), fun h => by rw [h]; rfl⟩
theorem sx_bI_inj {a b : Bool} (h : sx_bI a = sx_bI b) : a = b := by cases a <;> cases b <;> first | rfl | exact absurd h (by decide)
theorem sx_bI_nar (b : Bool) : narrow .boolean (.int (sx_bI b)) = .int (sx_bI b) := by cases b <;> rfl
theorem sx_bI_fit (b : Bool) : fits .boolean (.int (sx_bI b)) = true := by cases b <;> rfl
theorem sx_bI_vnar (b : Bool) : vp_nar .boolean (sx_bI b) = sx_bI b := by cases b <;> rfl
def sx_has (n : Nat) (p : Int32) : Bool := decide (¬ p < 0) && decide (p < nI n)
theorem sx_has_t {n : Nat} {p : Int32} (hn : n < 2 ^ 31) (h : sx_has n p = true) : ∃ j : Nat, j < n ∧ p = nI j := by
  simp only [sx_has, Bool.and_eq_true, decide_eq_true_eq] at h
  obtain ⟨j, hj, rfl⟩ := nI_of h.1
  exact ⟨j, (nI_ltI hj hn).mp h.2, rfl⟩
theorem sx_has_nI {n j : Nat} (hn : n < 2 ^ 31) (h : j < n) : sx_has n (nI j) = true := by
  simp only [sx_has, Bool.and_eq_true, decide_eq_true_eq]
  exact ⟨nI_pos (by omega), (nI_ltI (by omega) hn).mpr h⟩
def sx_any (f : Nat → Bool) : Nat → Bool
  | 0 => false
  | k + 1 => sx_any f k || f k
theorem sx_any_t {f : Nat → Bool} {m : Nat} : sx_any f m = true ↔ ∃ k, k < m ∧ f k = true := by
  induction m with
  | zero => exact ⟨fun h => (by cases h), fun ⟨k, h, _⟩ => absurd h (Nat.not_lt_zero k)⟩
  | succ m ih =>
    simp only [sx_any, Bool.or_eq_true, ih]
    constructor
    · rintro (⟨k, h1, h2⟩ | h)
      · exact ⟨k, by omega, h2⟩
      · exact ⟨m, by omega, h⟩
    · rintro ⟨k, h1, h2⟩
      by_cases e : k = m
      · subst e; exact Or.inr h2
      · exact Or.inl ⟨k, by omega, h2⟩
theorem sx_any_f {f : Nat → Bool} {m : Nat} : sx_any f m = false ↔ ∀ k, k < m → f k = false := by
  constructor
  · intro h k hk
    cases e : f k with
    | false => rfl
    | true => rw [sx_any_t.mpr ⟨k, hk, e⟩] at h; cases h
  · intro h
    cases e : sx_any f m with
    | false => rfl
    | true =>
      obtain ⟨k, h1, h2⟩ := sx_any_t.mp e
      rw [h k h1] at h2; cases h2
theorem sx_any_congr {f g : Nat → Bool} {m : Nat} (h : ∀ k, k < m → f k = g k) : sx_any f m = sx_any g m := by
  induction m with
  | zero => rfl
  | succ m ih => simp only [sx_any]; rw [ih (fun k hk => h k (by omega)), h m (by omega)]
theorem sx_any_mono {f : Nat → Bool} {m k : Nat} (hk : m ≤ k) (h : sx_any f m = true) : sx_any f k = true := by
  obtain ⟨j, h1, h2⟩ := sx_any_t.mp h
  exact sx_any_t.mpr ⟨j, by omega, h2⟩
def sx_cnt (f : Nat → Bool) : Nat → Nat
  | 0 => 0
  | k + 1 => sx_cnt f k + (bif f k then 1 else 0)
theorem sx_cnt_le (f : Nat → Bool) (m : Nat) : sx_cnt f m ≤ m := by
  induction m with
  | zero => exact Nat.le_refl 0
  | succ m ih => simp only [sx_cnt]; cases f m <;> simp <;> omega
theorem sx_cnt_congr {f g : Nat → Bool} {m : Nat} (h : ∀ k, k < m → f k = g k) : sx_cnt f m = sx_cnt g m := by
  induction m with
  | zero => rfl
  | succ m ih => simp only [sx_cnt]; rw [ih (fun k hk => h k (by omega)), h m (by omega)]
theorem sx_cnt_0 {f : Nat → Bool} {m k : Nat} (hk : m ≤ k) (h : ∀ j, m ≤ j → j < k → f j = false) : sx_cnt f k = sx_cnt f m := by
  induction k with
  | zero => rw [show m = 0 by omega]
  | succ k ih =>
    by_cases e : m = k + 1
    · rw [e]
    · simp only [sx_cnt]
      rw [ih (by omega) (fun j a b => h j a (by omega)), h k (by omega) (by omega)]
      rfl
/-! The tree: PATH p is UNDER a. -/
def sx_un (par : Nat → Int32) (a : Nat) : Nat → Nat → Bool
  | 0, p => Nat.beq p a
  | f + 1, p => Nat.beq p a || (Nat.blt 0 p && sx_un par a f (par p).toNatClampNeg)
def sx_U (par : Nat → Int32) (p a : Nat) : Bool := sx_un par a p p
def sx_PO (n : Nat) (par : Nat → Int32) : Prop := par 0 = -1 ∧ ∀ k, 1 ≤ k → k < n → ∃ j, j < k ∧ par k = nI j
theorem sx_un_fuel {n : Nat} {par : Nat → Int32} {a : Nat} (h : sx_PO n par) (hn : n < 2 ^ 31) : ∀ p, p < n → ∀ f, p ≤ f → sx_un par a f p = sx_un par a p p := by
  intro p
  induction p using Nat.strongRecOn with
  | ind p ih =>
    intro hp f hf
    cases p with
    | zero =>
      cases f with
      | zero => rfl
      | succ f => simp [sx_un, Nat.blt, Nat.ble]
    | succ p =>
      cases f with
      | zero => omega
      | succ f =>
        obtain ⟨j, h1, h2⟩ := h.2 (p + 1) (by omega) hp
        simp only [sx_un]
        rw [h2, nI_clamp (by omega), ih j h1 (by omega) f (by omega), ih j h1 (by omega) p (by omega)]
theorem sx_U_0 (par : Nat → Int32) (a : Nat) : sx_U par 0 a = Nat.beq 0 a := rfl
theorem sx_U_step {n : Nat} {par : Nat → Int32} {p j a : Nat} (h : sx_PO n par) (hn : n < 2 ^ 31) (hp : 1 ≤ p) (hpn : p < n) (hj : j < p) (e : par p = nI j) : sx_U par p a = (Nat.beq p a || sx_U par j a) := by
  cases p with
  | zero => omega
  | succ p =>
    have hb : Nat.blt 0 (p + 1) = true := by simp [Nat.blt, Nat.ble]
    simp only [sx_U, sx_un]
    rw [e, nI_clamp (by omega), hb, Bool.true_and, sx_un_fuel h hn j (by omega) p (by omega)]
theorem sx_U_self (par : Nat → Int32) (p : Nat) : sx_U par p p = true := by
  cases p with
  | zero => rfl
  | succ p => simp [sx_U, sx_un]
theorem sx_U_le {n : Nat} {par : Nat → Int32} {a : Nat} (h : sx_PO n par) (hn : n < 2 ^ 31) : ∀ p, p < n → sx_U par p a = true → a ≤ p := by
  intro p
  induction p using Nat.strongRecOn with
  | ind p ih =>
    intro hp hu
    cases p with
    | zero =>
      rw [sx_U_0] at hu
      have := Nat.eq_of_beq_eq_true hu
      omega
    | succ p =>
      obtain ⟨j, h1, h2⟩ := h.2 (p + 1) (by omega) hp
      rw [sx_U_step h hn (by omega) hp h1 h2, Bool.or_eq_true] at hu
      rcases hu with hu | hu
      · have := Nat.eq_of_beq_eq_true hu
        omega
      · have := ih j h1 (by omega) hu
        omega
/-- a new path leaves the old ones as they are -/
theorem sx_un_old {n : Nat} {par par' : Nat → Int32} {a : Nat} (h : sx_PO n par) (hn : n < 2 ^ 31) (he : ∀ k, k < n → par' k = par k) : ∀ p, p < n → ∀ f, p ≤ f → sx_un par' a f p = sx_un par a f p := by
  intro p
  induction p using Nat.strongRecOn with
  | ind p ih =>
    intro hp f hf
    cases f with
    | zero => rfl
    | succ f =>
      cases p with
      | zero => simp [sx_un, Nat.blt, Nat.ble]
      | succ p =>
        obtain ⟨j, h1, h2⟩ := h.2 (p + 1) (by omega) hp
        simp only [sx_un]
        rw [he (p + 1) hp, h2, nI_clamp (by omega), ih j h1 (by omega) f (by omega)]
theorem sx_U_old {n : Nat} {par par' : Nat → Int32} {p a : Nat} (h : sx_PO n par) (hn : n < 2 ^ 31) (he : ∀ k, k < n → par' k = par k) (hp : p < n) : sx_U par' p a = sx_U par p a := sx_un_old h hn he p hp p (Nat.le_refl p)
end
section
/-! Sets of paths as words: bit j of a long. -/
theorem sx_inj {a b : Int64} (h : a.toBitVec = b.toBitVec) : a = b := Int64.toBitVec_inj.mp h
def sx_nat (f : Nat → Bool) : Nat → Nat
  | 0 => 0
  | k + 1 => sx_nat f k ||| (bif f k then 2 ^ k else 0)
theorem sx_nat_tb (f : Nat → Bool) (m j : Nat) : (sx_nat f m).testBit j = (decide (j < m) && f j) := by
  induction m with
  | zero => simp [sx_nat]
  | succ m ih =>
    simp only [sx_nat, Nat.testBit_or, ih]
    by_cases e : j = m
    · subst e
      cases f j <;> simp [Nat.testBit_two_pow]
    · have h1 : (bif f m then 2 ^ m else 0 : Nat).testBit j = false := by
        cases f m <;> simp [Nat.testBit_two_pow, Ne.symm e]
      have h2 : decide (j < m) = decide (j < m + 1) := decide_eq_decide.mpr (by omega)
      rw [h1, Bool.or_false, h2]
def sx_lw (f : Nat → Bool) : Int64 := lN (sx_nat f 64)
def sx_bt (w : Int64) (j : Nat) : Bool := w.toBitVec.getLsbD j
theorem sx_bt_lw {f : Nat → Bool} {j : Nat} (hj : j < 64) : sx_bt (sx_lw f) j = f j := by
  show (BitVec.ofNat 64 (sx_nat f 64)).getLsbD j = f j
  rw [BitVec.getLsbD_ofNat, sx_nat_tb]
  simp [hj]
theorem sx_ext {a b : Int64} (h : ∀ j, j < 64 → sx_bt a j = sx_bt b j) : a = b := sx_inj (BitVec.eq_of_getLsbD_eq h)
theorem sx_lw_of {w : Int64} {f : Nat → Bool} (h : ∀ j, j < 64 → sx_bt w j = f j) : w = sx_lw f := sx_ext fun j hj => by rw [h j hj, sx_bt_lw hj]
theorem sx_lw_congr {f g : Nat → Bool} (h : ∀ j, j < 64 → f j = g j) : sx_lw f = sx_lw g := sx_ext fun j hj => by rw [sx_bt_lw hj, sx_bt_lw hj, h j hj]
theorem sx_bt_and (a b : Int64) (j : Nat) : sx_bt (a &&& b) j = (sx_bt a j && sx_bt b j) := by
  unfold sx_bt
  rw [Int64.toBitVec_and, BitVec.getLsbD_and]
theorem sx_bt_or (a b : Int64) (j : Nat) : sx_bt (a ||| b) j = (sx_bt a j || sx_bt b j) := by
  unfold sx_bt
  rw [Int64.toBitVec_or, BitVec.getLsbD_or]
theorem sx_bt_not (a : Int64) {j : Nat} (hj : j < 64) : sx_bt (a ^^^ (-1)) j = !sx_bt a j := by
  have e : (-1 : Int64).toBitVec = BitVec.allOnes 64 := by decide
  unfold sx_bt
  rw [Int64.toBitVec_xor, e, BitVec.getLsbD_xor, BitVec.getLsbD_allOnes]
  simp [hj]
theorem sx_bt_0 (j : Nat) : sx_bt 0 j = false := by
  have e : (0 : Int64).toBitVec = 0#64 := by decide
  unfold sx_bt
  rw [e, BitVec.getLsbD_zero]
def sx_on (j : Nat) : Int64 := (1 : Int64) <<< ((nI j).toInt64 &&& 63)
theorem sx_sh : ∀ k, k < 64 → ((1 : Int64) <<< ((nI k).toInt64 &&& 63)).toBitVec = BitVec.twoPow 64 k := by decide +kernel
theorem sx_bt_on {i j : Nat} (hi : i < 64) (hj : j < 64) : sx_bt (sx_on j) i = decide (i = j) := by
  unfold sx_bt sx_on
  rw [sx_sh j hj, BitVec.getLsbD_twoPow]
  by_cases e : i = j
  · subst e; simp [hi]
  · have e2 : ¬ j = i := fun h => e h.symm
    simp [e, e2]
theorem sx_w0 {w : Int64} : w = 0 ↔ ∀ j, j < 64 → sx_bt w j = false := by
  constructor
  · intro h j _; rw [h, sx_bt_0]
  · intro h; exact sx_ext fun j hj => by rw [h j hj, sx_bt_0]
theorem sx_wne {w : Int64} (h : ¬ w = 0) : ∃ j, j < 64 ∧ sx_bt w j = true := by
  by_cases e : ∃ j, j < 64 ∧ sx_bt w j = true
  · exact e
  · refine absurd (sx_w0.mpr fun j hj => ?_) h
    cases q : sx_bt w j with
    | false => rfl
    | true => exact absurd ⟨j, hj, q⟩ e
theorem sx_holds {w : Int64} {j : Nat} (hj : j < 64) : w &&& sx_on j = 0 ↔ sx_bt w j = false := by
  rw [sx_w0]
  constructor
  · intro h
    have := h j hj
    rw [sx_bt_and, sx_bt_on hj hj] at this
    simpa using this
  · intro h i hi
    rw [sx_bt_and, sx_bt_on hi hj]
    by_cases e : i = j
    · subst e; rw [h]; rfl
    · simp [e]
theorem sx_cmp0 {x y : Int64} : lg_cmp x y = 0 ↔ x = y := lg_cmp_eq x y
end
section
/-! What each call answers and does, of the state (n paths, na actions, L the limit, sb strict, α the tables:
1 parent, 2 letter, 3 source, 4 declared, 5 declared paths (12 a + k), 6 operations, 7 refusals, 8 how many tried, 9 tried (60 a + k),
10 world (60 a + p: above 0 a file, below 0 a link to - 1 - x), 11 is output (12 a + k), 12 is there, 13 is broken, 14 was there). -/
def sx_row (α : sx_A) (i : Nat) (f : Nat → Int32) : sx_A := fun k => bif Nat.beq k i then f else α k
def sx_dN (α : sx_A) (a : Nat) : Nat := (α 4 a).toNatClampNeg
def sx_tN (α : sx_A) (a : Nat) : Nat := (α 8 a).toNatClampNeg
def sx_dp (α : sx_A) (a k : Nat) : Nat := (α 5 (12 * a + k)).toNatClampNeg
def sx_ch (α : sx_A) (p c : Int32) : Nat → Int32
  | 0 => -1
  | k + 1 => if 0 < k ∧ α 1 k = p ∧ α 2 k = c then nI k else sx_ch α p c k
def sx_isL (c : Int32) : Bool := (decide (97 ≤ c) && decide (c ≤ 122)) || (decide (65 ≤ c) && decide (c ≤ 90))
def sx_new (n : Nat) (α : sx_A) (p c : Int32) : Bool := (sx_has n p && sx_isL c) && (decide (sx_ch α p c n = -1) && !Nat.beq n 60)
def sx_pathA (n : Nat) (α : sx_A) (p c : Int32) : Int32 := bif sx_has n p && sx_isL c then (bif decide (sx_ch α p c n = -1) && !Nat.beq n 60 then nI n else sx_ch α p c n) else -1
def sx_pathN (n : Nat) (α : sx_A) (p c : Int32) : Nat := bif sx_new n α p c then n + 1 else n
def sx_pathS (n : Nat) (α : sx_A) (p c : Int32) : sx_A := bif sx_new n α p c then sx_st (sx_st α 1 n p) 2 n c else α
def sx_inS (n : Nat) (α : sx_A) (p : Nat) : Bool := sx_any (fun k => (Nat.blt 0 k && !Nat.beq k p) && (decide (0 < α 3 k) && (sx_U (α 1) k p || sx_U (α 1) p k))) n
def sx_fileA (n : Nat) (α : sx_A) (p c : Int32) : Bool := (sx_has n p && (!decide (p = 0) && !decide (c < 0))) && !sx_inS n α p.toNatClampNeg
def sx_fileS (n : Nat) (α : sx_A) (p c : Int32) : sx_A := bif sx_fileA n α p c then sx_st α 3 p.toNatClampNeg c else α
def sx_srcA (n : Nat) (α : sx_A) (p : Int32) : Int32 := bif sx_has n p then α 3 p.toNatClampNeg else 0
def sx_actA (na : Nat) : Int32 := bif Nat.beq na 10 then -1 else nI na
def sx_actN (na : Nat) : Nat := bif Nat.beq na 10 then na else na + 1
def sx_decT (α : sx_A) (a p : Nat) : Bool := sx_any (fun k => sx_U (α 1) p (sx_dp α a k) || sx_U (α 1) (sx_dp α a k) p) (sx_dN α a)
def sx_decO (n : Nat) (α : sx_A) (a : Nat) (p : Int32) : Bool := (sx_has n p && !decide (p = 0)) && (!decide (α 4 a = 12) && decide (α 12 a = 0))
def sx_decA (n : Nat) (α : sx_A) (a : Nat) (p : Int32) : Int32 := bif sx_decO n α a p then (bif sx_decT α a p.toNatClampNeg then -2 else 1) else -1
def sx_decS (n : Nat) (α : sx_A) (a : Nat) (p : Int32) (o : Bool) : sx_A := bif sx_decO n α a p && !sx_decT α a p.toNatClampNeg then sx_st (sx_st (sx_st α 5 (12 * a + sx_dN α a) p) 11 (12 * a + sx_dN α a) (sx_bI o)) 4 a (α 4 a + 1) else α
def sx_isD (α : sx_A) (a : Nat) (o : Bool) (p : Nat) : Bool := sx_any (fun k => decide (α 11 (12 * a + k) = sx_bI o) && sx_U (α 1) p (sx_dp α a k)) (sx_dN α a)
def sx_z (n : Nat) (α : sx_A) : Int32 := sx_ch α 0 122 n
def sx_isW (n : Nat) (α : sx_A) (a p : Nat) : Bool := sx_isD α a true p || ((!decide (sx_z n α = -1) && !Nat.beq p (sx_z n α).toNatClampNeg) && (sx_U (α 1) p (sx_z n α).toNatClampNeg && !sx_isD α a false p))
def sx_hasS (n : Nat) (α : sx_A) (o : Nat) : Bool := sx_any (fun p => Nat.blt 0 p && (decide (0 < α 3 p) && sx_U (α 1) p o)) n
def sx_lack (n : Nat) (α : sx_A) (a : Nat) : Bool := sx_any (fun k => decide (α 11 (12 * a + k) = 0) && !sx_hasS n α (sx_dp α a k)) (sx_dN α a)
def sx_nw (n : Nat) (α : sx_A) (a p : Nat) : Int32 := bif Nat.blt p n && sx_isD α a false p then α 3 p else 0
def sx_begO (n : Nat) (α : sx_A) (a : Nat) : Bool := decide (α 12 a = 0) && !sx_lack n α a
def sx_begA (n : Nat) (α : sx_A) (a : Nat) : Int32 := bif decide (α 12 a = 0) then (bif sx_lack n α a then -2 else nI (sx_cnt (fun p => decide (0 < sx_nw n α a p)) 60)) else -1
def sx_wrow (n : Nat) (α : sx_A) (a m : Nat) : Nat → Int32 := fun j => bif Nat.ble (60 * a) j && Nat.blt j (60 * a + m) then sx_nw n α a (j - 60 * a) else α 10 j
def sx_begS (n : Nat) (α : sx_A) (a : Nat) : sx_A := bif sx_begO n α a then sx_st (sx_st (sx_st (sx_st (sx_st (sx_st (sx_row α 10 (sx_wrow n α a 60)) 12 a 1) 14 a 1) 13 a 0) 6 a 0) 7 a 0) 8 a 0 else α
def sx_ld (w : Nat → Int32) : Nat → Int32 → Int32
  | 0, x => if 0 < x then x else 0
  | f + 1, x => if x < 0 then sx_ld w f (w (-1 - x).toNatClampNeg) else if 0 < x then x else 0
def sx_lead (α : sx_A) (a p : Nat) : Int32 := sx_ld (fun j => α 10 (60 * a + j)) 4 (α 10 (60 * a + p))
def sx_ok (n : Nat) (α : sx_A) (a : Nat) (p q : Int32) : Bool := !decide (α 12 a = 0) && (sx_has n p && sx_has n q)
def sx_may (n L : Nat) (α : sx_A) (a : Nat) (p q : Int32) : Int32 := bif sx_ok n α a p q then (bif decide (α 6 a = nI L) then -9 else 0) else -1
def sx_mayB (n L : Nat) (α : sx_A) (a : Nat) (p q : Int32) : Bool := sx_ok n α a p q && !decide (α 6 a = nI L)
def sx_mayS (n L : Nat) (α : sx_A) (a : Nat) (p q : Int32) : sx_A := bif sx_ok n α a p q then (bif decide (α 6 a = nI L) then sx_st α 13 a 1 else sx_st α 6 a (α 6 a + 1)) else α
def sx_nt (α : sx_A) (a p : Nat) : Bool := sx_any (fun k => decide (α 9 (60 * a + k) = nI p)) (sx_tN α a)
def sx_openA (n L : Nat) (α : sx_A) (a : Nat) (p : Int32) : Int32 := bif sx_mayB n L α a p 0 then sx_lead α a p.toNatClampNeg else sx_may n L α a p 0
def sx_openS (n L : Nat) (α : sx_A) (a : Nat) (p : Int32) : sx_A := bif sx_mayB n L α a p 0 && !(decide (0 < sx_lead α a p.toNatClampNeg) || sx_nt α a p.toNatClampNeg) then sx_st (sx_st (sx_st α 6 a (α 6 a + 1)) 9 (60 * a + sx_tN α a) p) 8 a (α 8 a + 1) else sx_mayS n L α a p 0
def sx_inW (n : Nat) (α : sx_A) (a p : Nat) : Bool := sx_any (fun k => (Nat.blt 0 k && !Nat.beq k p) && (!decide (α 10 (60 * a + k) = 0) && (sx_U (α 1) k p || sx_U (α 1) p k))) n
def sx_ref (sb : Bool) (α : sx_A) (a : Nat) : sx_A := sx_st (sx_st α 7 a (α 7 a + 1)) 13 a (sx_bI (!decide (α 13 a = 0) || sb))
def sx_do (n L : Nat) (sb : Bool) (α : sx_A) (a : Nat) (p q : Int32) (ok : Bool) (v : Int32) : sx_A := bif sx_mayB n L α a p q then (bif ok then sx_st (sx_st α 6 a (α 6 a + 1)) 10 (60 * a + p.toNatClampNeg) v else sx_ref sb (sx_st α 6 a (α 6 a + 1)) a) else sx_mayS n L α a p q
def sx_doA (n L : Nat) (α : sx_A) (a : Nat) (p q : Int32) (ok : Bool) : Int32 := bif sx_mayB n L α a p q then sx_bI ok else sx_may n L α a p q
def sx_wrO (n : Nat) (α : sx_A) (a : Nat) (p c : Int32) : Bool := (sx_isW n α a p.toNatClampNeg && !sx_inW n α a p.toNatClampNeg) && !decide (c < 1)
def sx_lkO (n : Nat) (α : sx_A) (a : Nat) (p q : Int32) : Bool := (sx_isW n α a p.toNatClampNeg && !sx_inW n α a p.toNatClampNeg) && (sx_isW n α a q.toNatClampNeg || sx_isD α a false q.toNatClampNeg)
def sx_rmO (n : Nat) (α : sx_A) (a : Nat) (p : Int32) : Bool := sx_isW n α a p.toNatClampNeg && !decide (α 10 (60 * a + p.toNatClampNeg) = 0)
def sx_hu (n : Nat) (α : sx_A) (a o : Nat) : Bool := sx_any (fun k => Nat.blt 0 k && (!decide (α 10 (60 * a + k) = 0) && sx_U (α 1) k o)) n
def sx_lq (n : Nat) (α : sx_A) (a : Nat) (p : Int32) (c : Nat) : Bool := !decide (sx_ch α p (nI c) n = -1) && sx_hu n α a (sx_ch α p (nI c) n).toNatClampNeg
def sx_pick (q : Nat → Bool) : Nat → Nat → Int32 → Int32
  | 0, _, _ => 0
  | m + 1, c, i => bif q c then (if i = 0 then nI c else sx_pick q m (c + 1) (i - 1)) else sx_pick q m (c + 1) i
def sx_listA (n L : Nat) (α : sx_A) (a : Nat) (p i : Int32) : Int32 := bif sx_mayB n L α a p 0 then sx_pick (sx_lq n α a p) 58 65 i else sx_may n L α a p 0
def sx_loose (n : Nat) (α : sx_A) (a o : Nat) : Bool := sx_any (fun p => Nat.blt 0 p && (decide (α 10 (60 * a + p) < 0) && (sx_U (α 1) p o && decide (sx_lead α a p = 0)))) n
def sx_fl (n : Nat) (α : sx_A) (a : Nat) : Nat → Nat → Nat → Int32
  | 0, _, _ => 0
  | m + 1, k, pl => bif decide (α 11 (12 * a + k) = 0) then sx_fl n α a m (k + 1) pl else (bif sx_hu n α a (sx_dp α a k) then (bif sx_loose n α a (sx_dp α a k) then -11 - 2 * nI pl else sx_fl n α a m (k + 1) (pl + 1)) else -10 - 2 * nI pl)
def sx_mk (n : Nat) (α : sx_A) (a q : Nat) : Bool := sx_any (fun k => Nat.blt 0 k && ((!decide (α 10 (60 * a + k) = 0) && sx_isD α a true k) && sx_U (α 1) k q)) n
def sx_low (c : Int32) : Int32 := if 65 ≤ c ∧ c ≤ 90 then c + 32 else c
def sx_cl (n : Nat) (α : sx_A) (a : Nat) : Bool := sx_any (fun p => Nat.blt 0 p && sx_any (fun k => Nat.blt 0 k && ((sx_mk n α a p && sx_mk n α a k) && (decide (α 1 p = α 1 k) && decide (sx_low (α 2 p) = sx_low (α 2 k))))) p) n
def sx_way (n : Nat) (α : sx_A) (a : Nat) : Bool := sx_any (fun p => Nat.blt 0 p && (sx_mk n α a p && (decide (0 < α 3 p) && !sx_isD α a true p))) n
def sx_cm (n : Nat) (α : sx_A) (a p : Nat) : Bool := (Nat.blt 0 p && Nat.blt p n) && sx_isD α a true p
def sx_finC (n : Nat) (α : sx_A) (a : Nat) : Int32 := nI (sx_cnt (fun p => sx_cm n α a p && decide (0 < sx_lead α a p)) n)
def sx_finA (n : Nat) (α : sx_A) (a : Nat) (failed : Bool) : Int32 := bif decide (α 12 a = 0) then -1 else bif failed then 0 else bif !decide (α 13 a = 0) then -2 else bif !decide (sx_fl n α a (sx_dN α a) 0 0 = 0) then sx_fl n α a (sx_dN α a) 0 0 else bif sx_cl n α a then -3 else bif sx_way n α a then -4 else sx_finC n α a
def sx_finO (n : Nat) (α : sx_A) (a : Nat) (failed : Bool) : Bool := (!failed && decide (α 13 a = 0)) && (decide (sx_fl n α a (sx_dN α a) 0 0 = 0) && (!sx_cl n α a && !sx_way n α a))
def sx_srow (n : Nat) (α : sx_A) (a m : Nat) : Nat → Int32 := fun p => bif Nat.blt p m && sx_cm n α a p then sx_lead α a p else α 3 p
def sx_finS (n : Nat) (α : sx_A) (a : Nat) (failed : Bool) : sx_A := bif decide (α 12 a = 0) then α else sx_st (bif sx_finO n α a failed then sx_row α 3 (sx_srow n α a n) else α) 12 a 0
def sx_triA (α : sx_A) (a : Nat) (i : Int32) : Int32 := bif sx_has (sx_tN α a) i then α 9 (60 * a + i.toNatClampNeg) else -1
def sx_aboA (α : sx_A) (a : Nat) (w : Int32) : Int32 := if w = 0 then (bif decide (α 12 a = 0) then 0 else 1) else bif decide (α 14 a = 0) then -1 else if w = 1 then α 6 a else if w = 2 then α 7 a else if w = 3 then (bif decide (α 13 a = 0) then 0 else 1) else -1
end
section
/-! What always holds of the tables. -/
def sx_ACT (n L : Nat) (α : sx_A) (a : Nat) : Prop :=
  (∃ d, d ≤ 12 ∧ α 4 a = nI d ∧ ∀ k, k < d → ∃ p, 1 ≤ p ∧ p < n ∧ α 5 (12 * a + k) = nI p) ∧
  (∀ k, k < 12 → ∃ b, α 11 (12 * a + k) = sx_bI b) ∧
  (∃ o, o ≤ L ∧ α 6 a = nI o) ∧
  (∃ t, t ≤ 60 ∧ α 8 a = nI t ∧ (∀ k, k < t → ∃ p, p < n ∧ α 9 (60 * a + k) = nI p) ∧ ∀ i k, i < t → k < t → α 9 (60 * a + i) = α 9 (60 * a + k) → i = k) ∧
  (∀ j, j < 60 → (α 10 (60 * a + j) < 0 → ∃ q, q < n ∧ α 10 (60 * a + j) = -1 - nI q) ∧ (j = 0 ∨ n ≤ j → α 10 (60 * a + j) = 0)) ∧
  (∃ b, α 12 a = sx_bI b) ∧ (∃ b, α 13 a = sx_bI b) ∧ ∃ b, α 14 a = sx_bI b
def sx_FR (α : sx_A) (a : Nat) : Prop :=
  (α 4 a = 0 ∧ α 6 a = 0 ∧ α 7 a = 0 ∧ α 8 a = 0 ∧ α 12 a = 0 ∧ α 13 a = 0 ∧ α 14 a = 0) ∧ (∀ k, k < 12 → α 5 (12 * a + k) = 0 ∧ α 11 (12 * a + k) = 0) ∧ ∀ j, j < 60 → α 9 (60 * a + j) = 0 ∧ α 10 (60 * a + j) = 0
/-- the two tables say the same of an action -/
def sx_AG (α α' : sx_A) (a : Nat) : Prop :=
  (α' 4 a = α 4 a ∧ α' 6 a = α 6 a ∧ α' 7 a = α 7 a ∧ α' 8 a = α 8 a ∧ α' 12 a = α 12 a ∧ α' 13 a = α 13 a ∧ α' 14 a = α 14 a) ∧ (∀ k, k < 12 → α' 5 (12 * a + k) = α 5 (12 * a + k) ∧ α' 11 (12 * a + k) = α 11 (12 * a + k)) ∧ ∀ j, j < 60 → α' 9 (60 * a + j) = α 9 (60 * a + j) ∧ α' 10 (60 * a + j) = α 10 (60 * a + j)
def sx_LT (n : Nat) (α : sx_A) : Prop := ∀ k, 1 ≤ k → k < n → sx_isL (α 2 k) = true
def sx_DI (n : Nat) (α : sx_A) : Prop := ∀ i k, 1 ≤ i → i < n → 1 ≤ k → k < n → α 1 i = α 1 k → α 2 i = α 2 k → i = k
def sx_SR (n : Nat) (s : Nat → Int32) : Prop := (∀ j, ¬ s j < 0) ∧ s 0 = 0 ∧ ∀ j, n ≤ j → s j = 0
def sx_INV (n na L : Nat) (α : sx_A) : Prop := ((1 ≤ n ∧ n ≤ 60) ∧ na ≤ 10 ∧ 1 ≤ L ∧ L ≤ 500) ∧ sx_PO n (α 1) ∧ sx_LT n α ∧ sx_DI n α ∧ sx_SR n (α 3) ∧ (∀ a, a < 10 → sx_ACT n L α a) ∧ ∀ a, na ≤ a → a < 10 → sx_FR α a
theorem sx_ACT_ag {n n' L : Nat} {α α' : sx_A} {a : Nat} (hn : n ≤ n') (hw : ∀ j, j < 60 → n' ≤ j → α 10 (60 * a + j) = 0) (g : sx_AG α α' a) (h : sx_ACT n L α a) : sx_ACT n' L α' a := by
  obtain ⟨⟨g4, g6, g7, g8, g12, g13, g14⟩, gk, gj⟩ := g
  obtain ⟨⟨d, d1, d2, d3⟩, hk, ⟨o, o1, o2⟩, ⟨t, t1, t2, t3, t4⟩, hj, ⟨b1, e1⟩, ⟨b2, e2⟩, ⟨b3, e3⟩⟩ := h
  refine ⟨⟨d, d1, by rw [g4, d2], fun k hk => ?_⟩, fun k h => ?_, ⟨o, o1, by rw [g6, o2]⟩, ⟨t, t1, by rw [g8, t2], fun k h => ?_, fun i k hi hk e => ?_⟩, fun j h => ⟨fun z => ?_, fun z => ?_⟩, ⟨b1, by rw [g12, e1]⟩, ⟨b2, by rw [g13, e2]⟩, ⟨b3, by rw [g14, e3]⟩⟩
  · obtain ⟨p, p1, p2, p3⟩ := d3 k hk
    exact ⟨p, p1, by omega, by rw [(gk k (by omega)).1, p3]⟩
  · obtain ⟨b, e⟩ := hk k h
    exact ⟨b, by rw [(gk k h).2, e]⟩
  · obtain ⟨p, p1, p2⟩ := t3 k h
    exact ⟨p, by omega, by rw [(gj k (by omega)).1, p2]⟩
  · rw [(gj i (by omega)).1, (gj k (by omega)).1] at e
    exact t4 i k hi hk e
  · rw [(gj j h).2] at z ⊢
    obtain ⟨q, q1, q2⟩ := (hj j h).1 z
    exact ⟨q, by omega, q2⟩
  · rw [(gj j h).2]
    rcases z with z | z
    · exact (hj j h).2 (Or.inl z)
    · exact hw j h z
theorem sx_FR_ag {α α' : sx_A} {a : Nat} (g : sx_AG α α' a) (h : sx_FR α a) : sx_FR α' a := by
  obtain ⟨⟨g4, g6, g7, g8, g12, g13, g14⟩, gk, gj⟩ := g
  obtain ⟨⟨h4, h6, h7, h8, h12, h13, h14⟩, hk, hj⟩ := h
  exact ⟨⟨by rw [g4, h4], by rw [g6, h6], by rw [g7, h7], by rw [g8, h8], by rw [g12, h12], by rw [g13, h13], by rw [g14, h14]⟩, fun k h => ⟨by rw [(gk k h).1, (hk k h).1], by rw [(gk k h).2, (hk k h).2]⟩, fun j h => ⟨by rw [(gj j h).1, (hj j h).1], by rw [(gj j h).2, (hj j h).2]⟩⟩
theorem sx_AG_rf (α : sx_A) (a : Nat) : sx_AG α α a := ⟨⟨rfl, rfl, rfl, rfl, rfl, rfl, rfl⟩, fun _ _ => ⟨rfl, rfl⟩, fun _ _ => ⟨rfl, rfl⟩⟩
theorem sx_AG_tr {α β γ : sx_A} {a : Nat} (g : sx_AG α β a) (h : sx_AG β γ a) : sx_AG α γ a := by
  obtain ⟨⟨g4, g6, g7, g8, g12, g13, g14⟩, gk, gj⟩ := g
  obtain ⟨⟨h4, h6, h7, h8, h12, h13, h14⟩, hk, hj⟩ := h
  exact ⟨⟨h4.trans g4, h6.trans g6, h7.trans g7, h8.trans g8, h12.trans g12, h13.trans g13, h14.trans g14⟩, fun k z => ⟨(hk k z).1.trans (gk k z).1, (hk k z).2.trans (gk k z).2⟩, fun j z => ⟨(hj j z).1.trans (gj j z).1, (hj j z).2.trans (gj j z).2⟩⟩
/-- a write at one place of one table: which places of an action it leaves -/
theorem sx_AG_st {α : sx_A} {i x a : Nat} {v : Int32} (h1 : i = 4 ∨ i = 6 ∨ i = 7 ∨ i = 8 ∨ i = 12 ∨ i = 13 ∨ i = 14 → x ≠ a) (h2 : i = 5 ∨ i = 11 → ∀ k, k < 12 → x ≠ 12 * a + k) (h3 : i = 9 ∨ i = 10 → ∀ j, j < 60 → x ≠ 60 * a + j) : sx_AG α (sx_st α i x v) a := by
  have key : ∀ (r q : Nat), (i = r → x ≠ q) → sx_st α i x v r q = α r q := by
    intro r q h
    by_cases e : r = i
    · subst e
      rw [sx_st_eq]
      exact pk_un (fun z => h rfl z.symm)
    · rw [sx_st_ne e]
  exact ⟨⟨key 4 a (fun e => h1 (by omega)), key 6 a (fun e => h1 (by omega)), key 7 a (fun e => h1 (by omega)), key 8 a (fun e => h1 (by omega)), key 12 a (fun e => h1 (by omega)), key 13 a (fun e => h1 (by omega)), key 14 a (fun e => h1 (by omega))⟩,
    fun k h => ⟨key 5 _ (fun e => h2 (by omega) k h), key 11 _ (fun e => h2 (by omega) k h)⟩, fun j h => ⟨key 9 _ (fun e => h3 (by omega) j h), key 10 _ (fun e => h3 (by omega) j h)⟩⟩
/-- a write of action b's leaves the others -/
theorem sx_AG_one {α : sx_A} {i x a b : Nat} {v : Int32} (hab : a ≠ b) (h1 : i = 4 ∨ i = 6 ∨ i = 7 ∨ i = 8 ∨ i = 12 ∨ i = 13 ∨ i = 14 → x = b) (h2 : i = 5 ∨ i = 11 → ∃ k, k < 12 ∧ x = 12 * b + k) (h3 : i = 9 ∨ i = 10 → ∃ j, j < 60 ∧ x = 60 * b + j) : sx_AG α (sx_st α i x v) a := by
  refine sx_AG_st (fun e => ?_) (fun e k hk => ?_) (fun e j hj => ?_)
  · have q := h1 e; clear h1 h2 h3; omega
  · obtain ⟨z, z1, z2⟩ := h2 e; clear h1 h2 h3; omega
  · obtain ⟨z, z1, z2⟩ := h3 e; clear h1 h2 h3; omega
theorem sx_row_eq {α : sx_A} {i : Nat} {f : Nat → Int32} : sx_row α i f i = f := by
  have h : Nat.beq i i = true := Nat.beq_refl i
  simp only [sx_row, h, cond_true]
theorem sx_row_ne {α : sx_A} {i k : Nat} {f : Nat → Int32} (h : k ≠ i) : sx_row α i f k = α k := by
  have hb : Nat.beq k i = false := by
    cases hq : Nat.beq k i with
    | false => rfl
    | true => exact absurd (Nat.eq_of_beq_eq_true hq) h
  simp only [sx_row, hb, cond_false]
/-- the parts that only path and the source's calls change are as they were -/
theorem sx_INV_act {n na L : Nat} {α α' : sx_A} {a : Nat} (h : sx_INV n na L α) (ha : a < na) (e1 : α' 1 = α 1) (e2 : α' 2 = α 2) (e3 : sx_SR n (α' 3)) (g : ∀ b, b ≠ a → b < 10 → sx_AG α α' b) (hA : sx_ACT n L α' a) : sx_INV n na L α' := by
  obtain ⟨h0, h1, h2, h3, h4, h5, h6⟩ := h
  refine ⟨h0, by rw [e1]; exact h1, fun k a b => by rw [e2]; exact h2 k a b, fun i k a b c d x y => by rw [e1] at x; rw [e2] at y; exact h3 i k a b c d x y, e3, fun b hb => ?_, fun b hb hb2 => sx_FR_ag (g b (by omega) hb2) (h6 b hb hb2)⟩
  by_cases e : b = a
  · subst e; exact hA
  · exact sx_ACT_ag (Nat.le_refl n) (fun j z1 z2 => ((h5 b hb).2.2.2.2.1 j z1).2 (Or.inr z2)) (g b e hb) (h5 b hb)
end
section
/-! The invariant is kept by every call. -/
theorem sx_at {α : sx_A} {i x : Nat} {v : Int32} : sx_st α i x v i x = v := by rw [sx_st_eq]; exact pk_us
theorem sx_off {α : sx_A} {i x y : Nat} {v : Int32} (h : y ≠ x) : sx_st α i x v i y = α i y := by rw [sx_st_eq]; exact pk_un h
theorem sx_ACT_6 {n L o : Nat} {α : sx_A} {a : Nat} (h : sx_ACT n L α a) (ho : o ≤ L) : sx_ACT n L (sx_st α 6 a (nI o)) a := ⟨h.1, h.2.1, ⟨o, ho, sx_at⟩, h.2.2.2.1, h.2.2.2.2.1, h.2.2.2.2.2.1, h.2.2.2.2.2.2.1, h.2.2.2.2.2.2.2⟩
theorem sx_ACT_7 {n L : Nat} {α : sx_A} {a : Nat} {v : Int32} (h : sx_ACT n L α a) : sx_ACT n L (sx_st α 7 a v) a := ⟨h.1, h.2.1, h.2.2.1, h.2.2.2.1, h.2.2.2.2.1, h.2.2.2.2.2.1, h.2.2.2.2.2.2.1, h.2.2.2.2.2.2.2⟩
theorem sx_ACT_12 {n L : Nat} {α : sx_A} {a : Nat} {b : Bool} (h : sx_ACT n L α a) : sx_ACT n L (sx_st α 12 a (sx_bI b)) a := ⟨h.1, h.2.1, h.2.2.1, h.2.2.2.1, h.2.2.2.2.1, ⟨b, sx_at⟩, h.2.2.2.2.2.2.1, h.2.2.2.2.2.2.2⟩
theorem sx_ACT_13 {n L : Nat} {α : sx_A} {a : Nat} {b : Bool} (h : sx_ACT n L α a) : sx_ACT n L (sx_st α 13 a (sx_bI b)) a := ⟨h.1, h.2.1, h.2.2.1, h.2.2.2.1, h.2.2.2.2.1, h.2.2.2.2.2.1, ⟨b, sx_at⟩, h.2.2.2.2.2.2.2⟩
theorem sx_ACT_14 {n L : Nat} {α : sx_A} {a : Nat} {b : Bool} (h : sx_ACT n L α a) : sx_ACT n L (sx_st α 14 a (sx_bI b)) a := ⟨h.1, h.2.1, h.2.2.1, h.2.2.2.1, h.2.2.2.2.1, h.2.2.2.2.2.1, h.2.2.2.2.2.2.1, ⟨b, sx_at⟩⟩
theorem sx_ACT_80 {n L : Nat} {α : sx_A} {a : Nat} (h : sx_ACT n L α a) : sx_ACT n L (sx_st α 8 a 0) a := ⟨h.1, h.2.1, h.2.2.1, ⟨0, by omega, sx_at, fun k hk => absurd hk (Nat.not_lt_zero k), fun i k hi => absurd hi (Nat.not_lt_zero i)⟩, h.2.2.2.2.1, h.2.2.2.2.2.1, h.2.2.2.2.2.2.1, h.2.2.2.2.2.2.2⟩
theorem sx_ACT_10 {n L p : Nat} {α : sx_A} {a : Nat} {v : Int32} (h : sx_ACT n L α a) (hp : 1 ≤ p) (hpn : p < n) (hv : v < 0 → ∃ q, q < n ∧ v = -1 - nI q) : sx_ACT n L (sx_st α 10 (60 * a + p) v) a := by
  refine ⟨h.1, h.2.1, h.2.2.1, h.2.2.2.1, fun j hj => ?_, h.2.2.2.2.2.1, h.2.2.2.2.2.2.1, h.2.2.2.2.2.2.2⟩
  by_cases e : j = p
  · subst e
    rw [sx_at]
    exact ⟨hv, fun z => by omega⟩
  · rw [sx_off (show 60 * a + j ≠ 60 * a + p by omega)]
    exact h.2.2.2.2.1 j hj
theorem sx_nI_inj {i k : Nat} (hi : i < 2 ^ 31) (hk : k < 2 ^ 31) (h : nI i = nI k) : i = k := (nI_eq hi hk).mp h
/-- so many different numbers below m are at most m -/
theorem sx_pigeon : ∀ (m t : Nat) (f : Nat → Nat), (∀ i, i < t → f i < m) → (∀ i k, i < t → k < t → f i = f k → i = k) → t ≤ m := by
  intro m
  induction m with
  | zero =>
    intro t f h _
    cases t with
    | zero => exact Nat.le_refl 0
    | succ t => exact absurd (h 0 (by omega)) (Nat.not_lt_zero _)
  | succ m ih =>
    intro t f h hi
    by_cases e : ∃ k, k < t ∧ f k = m
    · obtain ⟨k, k1, k2⟩ := e
      cases t with
      | zero => omega
      | succ t =>
        have := ih t (fun i => if i < k then f i else f (i + 1)) (fun i hit => by
            by_cases c : i < k
            · simp only [c, if_true]
              have a1 := h i (by omega)
              have a2 : f i ≠ m := fun z => by have := hi i k (by omega) k1 (z.trans k2.symm); omega
              omega
            · simp only [c, if_false]
              have a1 := h (i + 1) (by omega)
              have a2 : f (i + 1) ≠ m := fun z => by have := hi (i + 1) k (by omega) k1 (z.trans k2.symm); omega
              omega) (fun i j hit hjt z => by
            by_cases c : i < k <;> by_cases d : j < k <;> simp only [c, d, if_true, if_false] at z
            · exact hi i j (by omega) (by omega) z
            · have := hi i (j + 1) (by omega) (by omega) z; omega
            · have := hi (i + 1) j (by omega) (by omega) z; omega
            · have := hi (i + 1) (j + 1) (by omega) (by omega) z; omega)
        omega
    · have := ih t f (fun i hit => by
        have a1 := h i hit
        have a2 : f i ≠ m := fun z => e ⟨i, hit, z⟩
        omega) hi
      omega
/-- a path that isn't noted yet can be noted: there is room -/
theorem sx_room {n L : Nat} {α : sx_A} {a p : Nat} (hn : n ≤ 60) (h : sx_ACT n L α a) (hp : p < n) (hq : sx_nt α a p = false) : sx_tN α a < 60 := by
  obtain ⟨t, t1, t2, t3, t4⟩ := h.2.2.2.1
  have ht : sx_tN α a = t := by unfold sx_tN; rw [t2, nI_clamp (by omega)]
  unfold sx_nt at hq
  rw [ht] at hq ⊢
  rw [sx_any_f] at hq
  have := sx_pigeon n (t + 1) (fun i => if i < t then (α 9 (60 * a + i)).toNatClampNeg else p) (fun i hi => by
      by_cases c : i < t
      · simp only [c, if_true]
        obtain ⟨q, q1, q2⟩ := t3 i c
        rw [q2, nI_clamp (by omega)]; exact q1
      · simp only [c, if_false]; exact hp) (fun i k hi hk z => by
      by_cases c : i < t <;> by_cases d : k < t <;> simp only [c, d, if_true, if_false] at z
      · obtain ⟨q, q1, q2⟩ := t3 i c
        obtain ⟨r, r1, r2⟩ := t3 k d
        rw [q2, r2, nI_clamp (by omega), nI_clamp (by omega)] at z
        exact t4 i k c d (by rw [q2, r2, z])
      · obtain ⟨q, q1, q2⟩ := t3 i c
        rw [q2, nI_clamp (by omega)] at z
        have := hq i c
        rw [q2, z] at this
        simp at this
      · obtain ⟨q, q1, q2⟩ := t3 k d
        rw [q2, nI_clamp (by omega)] at z
        have := hq k d
        rw [q2, ← z] at this
        simp at this
      · omega)
  omega
theorem sx_ACT_9 {n L p : Nat} {α : sx_A} {a : Nat} (hn : n ≤ 60) (h : sx_ACT n L α a) (hp : p < n) (hq : sx_nt α a p = false) : sx_ACT n L (sx_st (sx_st α 9 (60 * a + sx_tN α a) (nI p)) 8 a (α 8 a + 1)) a := by
  have hr := sx_room hn h hp hq
  obtain ⟨t, t1, t2, t3, t4⟩ := h.2.2.2.1
  have ht : sx_tN α a = t := by unfold sx_tN; rw [t2, nI_clamp (by omega)]
  unfold sx_nt at hq
  rw [ht] at hq hr ⊢
  rw [sx_any_f] at hq
  have e9 : ∀ k, (sx_st (sx_st α 9 (60 * a + t) (nI p)) 8 a (α 8 a + 1)) 9 k = sx_st α 9 (60 * a + t) (nI p) 9 k := fun k => rfl
  refine ⟨h.1, h.2.1, h.2.2.1, ⟨t + 1, by omega, by rw [sx_at, t2, nI_1], fun k hk => ?_, fun i k hi hk z => ?_⟩, h.2.2.2.2.1, h.2.2.2.2.2.1, h.2.2.2.2.2.2.1, h.2.2.2.2.2.2.2⟩
  · rw [e9]
    by_cases e : k = t
    · subst e; exact ⟨p, hp, sx_at⟩
    · rw [sx_off (by omega)]; exact t3 k (by omega)
  · rw [e9, e9] at z
    by_cases c : i = t <;> by_cases d : k = t
    · omega
    · subst c
      rw [sx_at, sx_off (by omega)] at z
      have := hq k (by omega)
      rw [← z] at this
      simp at this
    · subst d
      rw [sx_at, sx_off (by omega)] at z
      have := hq i (by omega)
      rw [z] at this
      simp at this
    · rw [sx_off (by omega), sx_off (by omega)] at z
      exact t4 i k (by omega) (by omega) z
theorem sx_INV_n {n na L : Nat} {α : sx_A} (h : sx_INV n na L α) : n < 2 ^ 31 := by have := h.1.1.2; omega
theorem sx_U0 {n : Nat} {par : Nat → Int32} (h : sx_PO n par) (hn : n < 2 ^ 31) {a : Nat} (h0 : 0 < n) (ha : 1 ≤ a) : sx_U par 0 a = false := by
  cases e : sx_U par 0 a with
  | false => rfl
  | true => have := sx_U_le h hn 0 h0 e; omega
theorem sx_dp_ok {n L : Nat} {α : sx_A} {a k : Nat} (hn : n < 2 ^ 31) (h : sx_ACT n L α a) (hk : k < sx_dN α a) : 1 ≤ sx_dp α a k ∧ sx_dp α a k < n ∧ α 5 (12 * a + k) = nI (sx_dp α a k) := by
  obtain ⟨d, d1, d2, d3⟩ := h.1
  have hd : sx_dN α a = d := by unfold sx_dN; rw [d2, nI_clamp (by omega)]
  obtain ⟨p, p1, p2, p3⟩ := d3 k (by omega)
  unfold sx_dp
  rw [p3, nI_clamp (by omega)]
  exact ⟨p1, p2, rfl⟩
theorem sx_dN_ok {n L : Nat} {α : sx_A} {a : Nat} (h : sx_ACT n L α a) : sx_dN α a ≤ 12 ∧ α 4 a = nI (sx_dN α a) := by
  obtain ⟨d, d1, d2, d3⟩ := h.1
  have hd : sx_dN α a = d := by unfold sx_dN; rw [d2, nI_clamp (by omega)]
  rw [hd]; exact ⟨d1, d2⟩
theorem sx_tN_ok {n L : Nat} {α : sx_A} {a : Nat} (h : sx_ACT n L α a) : sx_tN α a ≤ 60 ∧ α 8 a = nI (sx_tN α a) := by
  obtain ⟨d, d1, d2, d3⟩ := h.2.2.2.1
  have hd : sx_tN α a = d := by unfold sx_tN; rw [d2, nI_clamp (by omega)]
  rw [hd]; exact ⟨d1, d2⟩
theorem sx_isD0 {n L : Nat} {α : sx_A} {a : Nat} {o : Bool} (h1 : sx_PO n (α 1)) (hn : n < 2 ^ 31) (h0 : 0 < n) (h : sx_ACT n L α a) : sx_isD α a o 0 = false := by
  unfold sx_isD
  rw [sx_any_f]
  intro k hk
  rw [sx_U0 h1 hn h0 (sx_dp_ok hn h hk).1, Bool.and_false]
theorem sx_ch_ok {α : sx_A} {p c : Int32} : ∀ m, m < 2 ^ 31 → (sx_ch α p c m = -1 ∧ (∀ k, 0 < k → k < m → ¬ (α 1 k = p ∧ α 2 k = c))) ∨ ∃ k, 0 < k ∧ k < m ∧ α 1 k = p ∧ α 2 k = c ∧ sx_ch α p c m = nI k := by
  intro m
  induction m with
  | zero => exact fun _ => Or.inl ⟨rfl, fun k _ h => absurd h (Nat.not_lt_zero k)⟩
  | succ m ih =>
    intro hm
    by_cases e : 0 < m ∧ α 1 m = p ∧ α 2 m = c
    · exact Or.inr ⟨m, e.1, by omega, e.2.1, e.2.2, by simp only [sx_ch, if_pos e]⟩
    · have e2 : sx_ch α p c (m + 1) = sx_ch α p c m := by simp only [sx_ch, if_neg e]
      rw [e2]
      rcases ih (by omega) with ⟨a, b⟩ | ⟨k, a, b, c1, d, f⟩
      · refine Or.inl ⟨a, fun k h1 h2 => ?_⟩
        by_cases q : k = m
        · subst q; exact fun z => e ⟨h1, z⟩
        · exact b k h1 (by omega)
      · exact Or.inr ⟨k, a, by omega, c1, d, f⟩
theorem sx_nI_m1 {k : Nat} (h : k < 2 ^ 31) : nI k ≠ -1 := by
  intro e
  have := congrArg Int32.toInt e
  rw [nI_toInt h] at this
  have h2 : (-1 : Int32).toInt = -1 := by decide
  omega
theorem sx_z0 {n L : Nat} {α : sx_A} {a : Nat} (h1 : sx_PO n (α 1)) (hn : n < 2 ^ 31) (h0 : 0 < n) (h : sx_ACT n L α a) : sx_isW n α a 0 = false := by
  unfold sx_isW
  rw [sx_isD0 h1 hn h0 h, Bool.false_or]
  rcases sx_ch_ok (α := α) (p := 0) (c := 122) n hn with ⟨e, _⟩ | ⟨k, k1, k2, _, _, e⟩
  · have : sx_z n α = -1 := e
    rw [this]; rfl
  · have : sx_z n α = nI k := e
    rw [this, nI_clamp (by omega), sx_U0 h1 hn h0 k1]
    simp
end
section
theorem sx_AG_s {α : sx_A} {i a b : Nat} {v : Int32} (hab : b ≠ a) (hi : i ≠ 5 ∧ i ≠ 11 ∧ i ≠ 9 ∧ i ≠ 10) : sx_AG α (sx_st α i a v) b := sx_AG_one hab (fun _ => rfl) (fun e => by omega) (fun e => by omega)
theorem sx_AG_k {α : sx_A} {i a b k : Nat} {v : Int32} (hab : b ≠ a) (hk : k < 12) (hi : i = 5 ∨ i = 11) : sx_AG α (sx_st α i (12 * a + k) v) b := sx_AG_one hab (fun e => by omega) (fun _ => ⟨k, hk, rfl⟩) (fun e => by omega)
theorem sx_AG_j {α : sx_A} {i a b j : Nat} {v : Int32} (hab : b ≠ a) (hj : j < 60) (hi : i = 9 ∨ i = 10) : sx_AG α (sx_st α i (60 * a + j) v) b := sx_AG_one hab (fun e => by omega) (fun e => by omega) (fun _ => ⟨j, hj, rfl⟩)
theorem sx_INV_A {n na L : Nat} {α : sx_A} {a : Nat} (h : sx_INV n na L α) (ha : a < na) : sx_ACT n L α a := h.2.2.2.2.2.1 a (by have := h.1.2.1; omega)
theorem sx_op_lt {n na L : Nat} {α : sx_A} {a : Nat} (h : sx_INV n na L α) (ha : a < na) (e : ¬ α 6 a = nI L) : ∃ o, o < L ∧ α 6 a = nI o := by
  obtain ⟨o, o1, o2⟩ := (sx_INV_A h ha).2.2.1
  refine ⟨o, ?_, o2⟩
  rcases Nat.lt_or_ge o L with q | q
  · exact q
  · rw [show o = L by omega] at o2
    exact absurd o2 e
theorem sx_ACT_op {n na L : Nat} {α : sx_A} {a : Nat} (h : sx_INV n na L α) (ha : a < na) (e : ¬ α 6 a = nI L) : sx_ACT n L (sx_st α 6 a (α 6 a + 1)) a := by
  obtain ⟨o, o1, o2⟩ := sx_op_lt h ha e
  rw [o2, nI_1]
  exact sx_ACT_6 (sx_INV_A h ha) o1
theorem sx_INV_op {n na L : Nat} {α : sx_A} {a : Nat} (h : sx_INV n na L α) (ha : a < na) (e : ¬ α 6 a = nI L) : sx_INV n na L (sx_st α 6 a (α 6 a + 1)) :=
  sx_INV_act h ha rfl rfl h.2.2.2.2.1 (fun b hb _ => sx_AG_s hb (by omega)) (sx_ACT_op h ha e)
theorem sx_INV_mayS {n na L : Nat} {α : sx_A} {a : Nat} {p q : Int32} (h : sx_INV n na L α) (ha : a < na) : sx_INV n na L (sx_mayS n L α a p q) := by
  unfold sx_mayS
  cases e1 : sx_ok n α a p q with
  | false => exact h
  | true =>
    by_cases e2 : α 6 a = nI L
    · rw [decide_eq_true e2]
      exact sx_INV_act h ha rfl rfl h.2.2.2.2.1 (fun b hb _ => sx_AG_s hb (by omega)) (sx_ACT_13 (b := true) (sx_INV_A h ha))
    · rw [decide_eq_false e2]
      exact sx_INV_op h ha e2
theorem sx_mayB_t {n L : Nat} {α : sx_A} {a : Nat} {p q : Int32} (h : sx_mayB n L α a p q = true) : (¬ α 12 a = 0) ∧ sx_has n p = true ∧ sx_has n q = true ∧ ¬ α 6 a = nI L := by
  simp only [sx_mayB, sx_ok, Bool.and_eq_true, Bool.not_eq_true', decide_eq_false_iff_not] at h
  exact ⟨h.1.1, h.1.2.1, h.1.2.2, h.2⟩
theorem sx_INV_do {n na L : Nat} {sb ok : Bool} {α : sx_A} {a : Nat} {p q v : Int32} (h : sx_INV n na L α) (ha : a < na) (hok : ok = true → sx_isW n α a p.toNatClampNeg = true) (hv : sx_mayB n L α a p q = true → ok = true → v < 0 → ∃ k, k < n ∧ v = -1 - nI k) : sx_INV n na L (sx_do n L sb α a p q ok v) := by
  have hn := sx_INV_n h
  unfold sx_do
  cases e1 : sx_mayB n L α a p q with
  | false => exact sx_INV_mayS h ha
  | true =>
    obtain ⟨m1, m2, m3, m4⟩ := sx_mayB_t e1
    have h1 := sx_INV_op h ha m4
    cases e2 : ok with
    | false =>
      refine sx_INV_act h1 ha rfl rfl h1.2.2.2.2.1 (fun b hb _ => sx_AG_tr (sx_AG_s hb (by omega)) (sx_AG_s hb (by omega))) ?_
      exact sx_ACT_13 (sx_ACT_7 (sx_INV_A h1 ha))
    | true =>
      obtain ⟨j, j1, rfl⟩ := sx_has_t hn m2
      have hj := hok e2
      rw [nI_clamp (by omega)] at hj
      have hj0 : 1 ≤ j := by
        rcases Nat.eq_zero_or_pos j with z | z
        · subst z
          rw [sx_z0 h.2.1 hn (by omega) (sx_INV_A h ha)] at hj
          cases hj
        · exact z
      show sx_INV n na L (sx_st (sx_st α 6 a (α 6 a + 1)) 10 (60 * a + (nI j).toNatClampNeg) v)
      rw [nI_clamp (by omega)]
      have := h.1.1.2
      exact sx_INV_act h1 ha rfl rfl h1.2.2.2.2.1 (fun b hb _ => sx_AG_j hb (by omega) (by omega)) (sx_ACT_10 (sx_INV_A h1 ha) hj0 j1 (hv e1 e2))
theorem sx_INV_write {n na L : Nat} {sb : Bool} {α : sx_A} {a : Nat} {p c : Int32} (h : sx_INV n na L α) (ha : a < na) : sx_INV n na L (sx_do n L sb α a p 0 (sx_wrO n α a p c) c) := by
  refine sx_INV_do h ha (fun e => ?_) (fun _ e z => ?_)
  · simp only [sx_wrO, Bool.and_eq_true] at e
    exact e.1.1
  · simp only [sx_wrO, Bool.and_eq_true, Bool.not_eq_true', decide_eq_false_iff_not] at e
    have e2 := e.2
    rw [Int32.lt_iff_toInt_lt] at e2 z
    have i1 : (1 : Int32).toInt = 1 := by decide
    have i0 : (0 : Int32).toInt = 0 := by decide
    omega
theorem sx_INV_link {n na L : Nat} {sb : Bool} {α : sx_A} {a : Nat} {p q : Int32} (h : sx_INV n na L α) (ha : a < na) : sx_INV n na L (sx_do n L sb α a p q (sx_lkO n α a p q) (-1 - q)) := by
  refine sx_INV_do h ha (fun e => ?_) (fun e _ _ => ?_)
  · simp only [sx_lkO, Bool.and_eq_true] at e
    exact e.1.1
  · obtain ⟨k, k1, rfl⟩ := sx_has_t (sx_INV_n h) (sx_mayB_t e).2.2.1
    exact ⟨k, k1, rfl⟩
theorem sx_INV_remove {n na L : Nat} {sb : Bool} {α : sx_A} {a : Nat} {p : Int32} (h : sx_INV n na L α) (ha : a < na) : sx_INV n na L (sx_do n L sb α a p 0 (sx_rmO n α a p) 0) := by
  refine sx_INV_do h ha (fun e => ?_) (fun _ _ z => absurd z (by decide))
  simp only [sx_rmO, Bool.and_eq_true] at e
  exact e.1
theorem sx_INV_open {n na L : Nat} {α : sx_A} {a : Nat} {p : Int32} (h : sx_INV n na L α) (ha : a < na) : sx_INV n na L (sx_openS n L α a p) := by
  have hn := sx_INV_n h
  unfold sx_openS
  cases e1 : sx_mayB n L α a p 0 with
  | false => exact sx_INV_mayS h ha
  | true =>
    cases e2 : (decide (0 < sx_lead α a p.toNatClampNeg) || sx_nt α a p.toNatClampNeg) with
    | true => exact sx_INV_mayS h ha
    | false =>
      obtain ⟨m1, m2, m3, m4⟩ := sx_mayB_t e1
      have h1 := sx_INV_op h ha m4
      obtain ⟨j, j1, rfl⟩ := sx_has_t hn m2
      simp only [Bool.or_eq_false_iff] at e2
      have e3 := e2.2
      rw [nI_clamp (by omega)] at e3
      have hn60 := h.1.1.2
      have hr : sx_tN α a < 60 := sx_room hn60 (sx_INV_A h ha) j1 e3
      exact sx_INV_act h1 ha rfl rfl h1.2.2.2.2.1 (fun b hb _ => sx_AG_tr (sx_AG_j hb hr (by omega)) (sx_AG_s hb (by omega))) (sx_ACT_9 hn60 (sx_INV_A h1 ha) j1 e3)
theorem sx_INV_dec {n na L : Nat} {α : sx_A} {a : Nat} {p : Int32} {o : Bool} (h : sx_INV n na L α) (ha : a < na) : sx_INV n na L (sx_decS n α a p o) := by
  have hn := sx_INV_n h
  have hA := sx_INV_A h ha
  obtain ⟨hd1, hd2⟩ := sx_dN_ok hA
  unfold sx_decS
  cases e : (sx_decO n α a p && !sx_decT α a p.toNatClampNeg) with
  | false => exact h
  | true =>
    simp only [sx_decO, Bool.and_eq_true, Bool.not_eq_true', decide_eq_false_iff_not] at e
    obtain ⟨⟨⟨e1, e2⟩, e3, -⟩, -⟩ := e
    obtain ⟨j, j1, rfl⟩ := sx_has_t hn e1
    have hj0 : 1 ≤ j := by
      rcases Nat.eq_zero_or_pos j with z | z
      · subst z; exact absurd rfl e2
      · exact z
    have hd : sx_dN α a < 12 := by
      rcases Nat.lt_or_ge (sx_dN α a) 12 with q | q
      · exact q
      · rw [show sx_dN α a = 12 by omega] at hd2
        exact absurd hd2 e3
    show sx_INV n na L (sx_st (sx_st (sx_st α 5 (12 * a + sx_dN α a) (nI j)) 11 (12 * a + sx_dN α a) (sx_bI o)) 4 a (α 4 a + 1))
    refine sx_INV_act h ha rfl rfl h.2.2.2.2.1 (fun b hb _ => sx_AG_tr (sx_AG_tr (sx_AG_k hb hd (by omega)) (sx_AG_k hb hd (by omega))) (sx_AG_s hb (by omega))) ?_
    generalize hdd : sx_dN α a = d at hd hd2 hd1 ⊢
    refine ⟨⟨d + 1, by omega, by rw [hd2, nI_1]; exact sx_at, fun k hk => ?_⟩, fun k hk => ?_, hA.2.2.1, hA.2.2.2.1, hA.2.2.2.2.1, hA.2.2.2.2.2.1, hA.2.2.2.2.2.2.1, hA.2.2.2.2.2.2.2⟩
    · show ∃ p, 1 ≤ p ∧ p < n ∧ sx_st α 5 (12 * a + d) (nI j) 5 (12 * a + k) = nI p
      by_cases c : k = d
      · subst c; exact ⟨j, hj0, j1, sx_at⟩
      · rw [sx_off (by omega)]
        obtain ⟨q1, q2, q3⟩ := sx_dp_ok hn hA (show k < sx_dN α a by omega)
        exact ⟨_, q1, q2, q3⟩
    · show ∃ b, sx_st (sx_st α 5 (12 * a + d) (nI j)) 11 (12 * a + d) (sx_bI o) 11 (12 * a + k) = sx_bI b
      by_cases c : k = d
      · subst c; exact ⟨o, sx_at⟩
      · rw [sx_off (by omega)]
        exact hA.2.1 k hk
theorem sx_nw_ok {n na L : Nat} {α : sx_A} {a p : Nat} (h : sx_INV n na L α) : ¬ sx_nw n α a p < 0 ∧ (p = 0 ∨ n ≤ p → sx_nw n α a p = 0) := by
  obtain ⟨s1, s2, s3⟩ := h.2.2.2.2.1
  unfold sx_nw
  cases e : (Nat.blt p n && sx_isD α a false p) with
  | false => exact ⟨(show ¬ (0 : Int32) < 0 by decide), fun _ => rfl⟩
  | true =>
    refine ⟨s1 p, fun z => ?_⟩
    rcases z with z | z
    · subst z; exact s2
    · exact s3 p z
theorem sx_INV_beg {n na L : Nat} {α : sx_A} {a : Nat} (h : sx_INV n na L α) (ha : a < na) : sx_INV n na L (sx_begS n α a) := by
  have hA := sx_INV_A h ha
  unfold sx_begS
  cases e : sx_begO n α a with
  | false => exact h
  | true =>
    have h10 : ∀ j, j < 60 → sx_wrow n α a 60 (60 * a + j) = sx_nw n α a j := by
      intro j hj
      have b1 : Nat.ble (60 * a) (60 * a + j) = true := Nat.ble_eq_true_of_le (by omega)
      have b2 : Nat.blt (60 * a + j) (60 * a + 60) = true := by simp only [Nat.blt]; exact Nat.ble_eq_true_of_le (by omega)
      simp only [sx_wrow, b1, b2, Bool.and_self, cond_true, Nat.add_sub_cancel_left]
    have hoth : ∀ b j, b ≠ a → j < 60 → sx_wrow n α a 60 (60 * b + j) = α 10 (60 * b + j) := by
      intro b j hb hj
      have b1 : (Nat.ble (60 * a) (60 * b + j) && Nat.blt (60 * b + j) (60 * a + 60)) = false := by
        cases c : (Nat.ble (60 * a) (60 * b + j) && Nat.blt (60 * b + j) (60 * a + 60)) with
        | false => rfl
        | true =>
          simp only [Bool.and_eq_true, Nat.blt] at c
          have c1 := Nat.le_of_ble_eq_true c.1
          have c2 := Nat.le_of_ble_eq_true c.2
          omega
      simp only [sx_wrow, b1, cond_false]
    have hrow : sx_ACT n L (sx_row α 10 (sx_wrow n α a 60)) a := by
      refine ⟨hA.1, hA.2.1, hA.2.2.1, hA.2.2.2.1, fun j hj => ?_, hA.2.2.2.2.2.1, hA.2.2.2.2.2.2.1, hA.2.2.2.2.2.2.2⟩
      show (sx_wrow n α a 60 (60 * a + j) < 0 → ∃ q, q < n ∧ sx_wrow n α a 60 (60 * a + j) = -1 - nI q) ∧ (j = 0 ∨ n ≤ j → sx_wrow n α a 60 (60 * a + j) = 0)
      rw [h10 j hj]
      exact ⟨fun z => absurd z (sx_nw_ok h).1, (sx_nw_ok h).2⟩
    have hag : ∀ b, b ≠ a → sx_AG α (sx_row α 10 (sx_wrow n α a 60)) b := fun b hb => ⟨⟨rfl, rfl, rfl, rfl, rfl, rfl, rfl⟩, fun _ _ => ⟨rfl, rfl⟩, fun j hj => ⟨rfl, hoth b j hb hj⟩⟩
    refine sx_INV_act h ha rfl rfl h.2.2.2.2.1 (fun b hb _ => sx_AG_tr (sx_AG_tr (sx_AG_tr (sx_AG_tr (sx_AG_tr (sx_AG_tr (hag b hb) (sx_AG_s hb (by omega))) (sx_AG_s hb (by omega))) (sx_AG_s hb (by omega))) (sx_AG_s hb (by omega))) (sx_AG_s hb (by omega))) (sx_AG_s hb (by omega))) ?_
    exact sx_ACT_80 (sx_ACT_7 (sx_ACT_6 (o := 0) (sx_ACT_13 (b := false) (sx_ACT_14 (b := true) (sx_ACT_12 (b := true) hrow))) (by omega)))
theorem sx_ld_ok (w : Nat → Int32) : ∀ (f : Nat) (x : Int32), ¬ sx_ld w f x < 0 := by
  intro f
  induction f with
  | zero =>
    intro x
    simp only [sx_ld]
    split
    · next h => exact fun z => Int32.lt_irrefl (Int32.lt_trans h z)
    · decide
  | succ f ih =>
    intro x
    simp only [sx_ld]
    split
    · exact ih _
    · split
      · next h => exact fun z => Int32.lt_irrefl (Int32.lt_trans h z)
      · decide
theorem sx_srow_ok {n na L : Nat} {α : sx_A} {a : Nat} (h : sx_INV n na L α) : sx_SR n (sx_srow n α a n) := by
  obtain ⟨s1, s2, s3⟩ := h.2.2.2.2.1
  refine ⟨fun j => ?_, ?_, fun j hj => ?_⟩
  · unfold sx_srow
    cases e : (Nat.blt j n && sx_cm n α a j) with
    | false => exact s1 j
    | true => exact sx_ld_ok _ _ _
  · unfold sx_srow sx_cm
    have : Nat.blt 0 0 = false := rfl
    simp only [this, Bool.false_and, Bool.and_false, cond_false]
    exact s2
  · unfold sx_srow
    have : Nat.blt j n = false := by
      cases c : Nat.blt j n with
      | false => rfl
      | true => have := Nat.le_of_ble_eq_true c; omega
    simp only [this, Bool.false_and, cond_false]
    exact s3 j hj
theorem sx_INV_fin {n na L : Nat} {α : sx_A} {a : Nat} {f : Bool} (h : sx_INV n na L α) (ha : a < na) : sx_INV n na L (sx_finS n α a f) := by
  have hA := sx_INV_A h ha
  unfold sx_finS
  cases e : decide (α 12 a = 0) with
  | true => exact h
  | false =>
    cases e2 : sx_finO n α a f with
    | false => exact sx_INV_act h ha rfl rfl h.2.2.2.2.1 (fun b hb _ => sx_AG_s hb (by omega)) (sx_ACT_12 (b := false) hA)
    | true =>
      have hrow : sx_ACT n L (sx_row α 3 (sx_srow n α a n)) a := hA
      exact sx_INV_act h ha rfl rfl (sx_srow_ok h) (fun b hb _ => sx_AG_tr (show sx_AG α (sx_row α 3 (sx_srow n α a n)) b from sx_AG_rf α b) (sx_AG_s hb (by omega))) (sx_ACT_12 (b := false) hrow)
theorem sx_INV_file {n na L : Nat} {α : sx_A} {p c : Int32} (h : sx_INV n na L α) : sx_INV n na L (sx_fileS n α p c) := by
  have hn := sx_INV_n h
  unfold sx_fileS
  cases e : sx_fileA n α p c with
  | false => exact h
  | true =>
    simp only [sx_fileA, Bool.and_eq_true, Bool.not_eq_true', decide_eq_false_iff_not] at e
    obtain ⟨⟨e1, e2, e3⟩, -⟩ := e
    obtain ⟨j, j1, rfl⟩ := sx_has_t hn e1
    rw [nI_clamp (by omega)]
    have hj0 : 1 ≤ j := by
      rcases Nat.eq_zero_or_pos j with z | z
      · subst z; exact absurd rfl e2
      · exact z
    obtain ⟨h0, h1, h2, h3, ⟨s1, s2, s3⟩, h5, h6⟩ := h
    refine ⟨h0, h1, h2, h3, ⟨fun i => ?_, ?_, fun i hi => ?_⟩, h5, h6⟩
    · by_cases z : i = j
      · subst z; show ¬ sx_st α 3 i c 3 i < 0; rw [sx_at]; exact e3
      · show ¬ sx_st α 3 j c 3 i < 0; rw [sx_off z]; exact s1 i
    · show sx_st α 3 j c 3 0 = 0; rw [sx_off (by omega)]; exact s2
    · show sx_st α 3 j c 3 i = 0; rw [sx_off (by omega)]; exact s3 i hi
theorem sx_INV_action {n na L : Nat} {α : sx_A} (h : sx_INV n na L α) : sx_INV n (sx_actN na) L α := by
  unfold sx_actN
  cases e : Nat.beq na 10 with
  | true => exact h
  | false =>
    have hne : na ≠ 10 := fun z => by subst z; cases e
    obtain ⟨⟨h0, h0a, h0b⟩, h1, h2, h3, h4, h5, h6⟩ := h
    exact ⟨⟨h0, by show na + 1 ≤ 10; omega, h0b⟩, h1, h2, h3, h4, h5, fun a ha hb => h6 a (by have ha : na + 1 ≤ a := ha; omega) hb⟩
theorem sx_INV_path {n na L : Nat} {α : sx_A} {p c : Int32} (h : sx_INV n na L α) : sx_INV (sx_pathN n α p c) na L (sx_pathS n α p c) := by
  have hn := sx_INV_n h
  unfold sx_pathN sx_pathS
  cases e : sx_new n α p c with
  | false => exact h
  | true =>
    simp only [sx_new, Bool.and_eq_true, Bool.not_eq_true', decide_eq_true_eq] at e
    obtain ⟨⟨e1, e2⟩, e3, e4⟩ := e
    obtain ⟨j, j1, rfl⟩ := sx_has_t hn e1
    have hne : n ≠ 60 := fun z => by subst z; cases e4
    have hch : ∀ k, 0 < k → k < n → ¬ (α 1 k = nI j ∧ α 2 k = c) := by
      rcases sx_ch_ok (α := α) (p := nI j) (c := c) n hn with ⟨_, b⟩ | ⟨k, k1, k2, _, _, k5⟩
      · exact b
      · rw [e3] at k5; exact absurd k5.symm (sx_nI_m1 (by omega))
    obtain ⟨⟨⟨h0, h00⟩, h0b⟩, h1, h2, h3, ⟨s1, s2, s3⟩, h5, h6⟩ := h
    have r1 : ∀ k, k < n → (sx_st (sx_st α 1 n (nI j)) 2 n c) 1 k = α 1 k := fun k hk => by show sx_st α 1 n (nI j) 1 k = α 1 k; exact sx_off (by omega)
    have r2 : ∀ k, k < n → (sx_st (sx_st α 1 n (nI j)) 2 n c) 2 k = α 2 k := fun k hk => by show sx_st (sx_st α 1 n (nI j)) 2 n c 2 k = α 2 k; exact sx_off (by omega)
    have q1 : (sx_st (sx_st α 1 n (nI j)) 2 n c) 1 n = nI j := by show sx_st α 1 n (nI j) 1 n = nI j; exact sx_at
    have q2 : (sx_st (sx_st α 1 n (nI j)) 2 n c) 2 n = c := sx_at
    show sx_INV (n + 1) na L (sx_st (sx_st α 1 n (nI j)) 2 n c)
    generalize hβ : sx_st (sx_st α 1 n (nI j)) 2 n c = β at r1 r2 q1 q2 ⊢
    have hag : ∀ a, sx_AG α β a := fun a => by rw [← hβ]; exact sx_AG_rf α a
    have h3r : β 3 = α 3 := by rw [← hβ]; rfl
    refine ⟨⟨⟨by omega, by omega⟩, h0b⟩, ⟨by rw [r1 0 (by omega)]; exact h1.1, fun k a b => ?_⟩, fun k a b => ?_, fun i k a b x d u w => ?_, ⟨by rw [h3r]; exact s1, by rw [h3r]; exact s2, fun i hi => by rw [h3r]; exact s3 i (by omega)⟩, fun a ha => sx_ACT_ag (by omega) (fun i z1 z2 => ((h5 a ha).2.2.2.2.1 i z1).2 (Or.inr (by omega))) (hag a) (h5 a ha), fun a ha hb => sx_FR_ag (hag a) (h6 a ha hb)⟩
    · by_cases z : k = n
      · subst z; exact ⟨j, j1, q1⟩
      · rw [r1 k (by omega)]; exact h1.2 k a (by omega)
    · by_cases z : k = n
      · subst z; rw [q2]; exact e2
      · rw [r2 k (by omega)]; exact h2 k a (by omega)
    · by_cases z : i = n <;> by_cases z2 : k = n
      · omega
      · subst z
        rw [q1, r1 k (by omega)] at u
        rw [q2, r2 k (by omega)] at w
        exact absurd ⟨u.symm, w.symm⟩ (hch k (by omega) (by omega))
      · subst z2
        rw [q1, r1 i (by omega)] at u
        rw [q2, r2 i (by omega)] at w
        exact absurd ⟨u, w⟩ (hch i (by omega) (by omega))
      · rw [r1 i (by omega), r1 k (by omega)] at u
        rw [r2 i (by omega), r2 k (by omega)] at w
        exact h3 i k a (by omega) x (by omega) u w
def sx_A0 : sx_A := sx_st (fun _ _ => 0) 1 0 (-1)
theorem sx_INV_0 {L : Nat} (h1 : 1 ≤ L) (h2 : L ≤ 500) : sx_INV 1 0 L sx_A0 := by
  refine ⟨⟨⟨by omega, by omega⟩, by omega, h1, h2⟩, ⟨sx_at, fun k a b => by omega⟩, fun k a b => by omega, fun i k a b => by omega, ⟨fun j => (show ¬ (0 : Int32) < 0 by decide), rfl, fun j _ => rfl⟩, fun a ha => ?_, fun a _ _ => ⟨⟨rfl, rfl, rfl, rfl, rfl, rfl, rfl⟩, fun _ _ => ⟨rfl, rfl⟩, fun _ _ => ⟨rfl, rfl⟩⟩⟩
  exact ⟨⟨0, by omega, rfl, fun k hk => absurd hk (Nat.not_lt_zero k)⟩, fun k _ => ⟨false, rfl⟩, ⟨0, by omega, rfl⟩, ⟨0, by omega, rfl, fun k hk => absurd hk (Nat.not_lt_zero k), fun i k hi => absurd hi (Nat.not_lt_zero i)⟩, fun j _ => ⟨fun z => absurd z (by show ¬ (0 : Int32) < 0; decide), fun _ => rfl⟩, ⟨false, rfl⟩, ⟨false, rfl⟩, ⟨false, rfl⟩⟩
end
section
/-! How the class holds the tree, and what its words say. -/
def sx_RP (n : Nat) (par : Nat → Int32) (ab un : Nat → Int64) : Prop :=
  (∀ p, p < n → ∀ q, q < 64 → sx_bt (ab p) q = sx_U par p q) ∧ (∀ q, q < n → ∀ p, p < 64 → sx_bt (un q) p = (Nat.blt p n && sx_U par p q)) ∧ ∀ q, n ≤ q → q < 60 → un q = 0
def sx_unG (un : Nat → Int64) (w : Int64) (n i : Nat) : Nat → Int64 := fun q => bif Nat.blt q i && sx_bt w q then un q ||| sx_on n else un q
theorem sx_blt {a b : Nat} : Nat.blt a b = decide (a < b) := by
  by_cases h : a < b
  · rw [decide_eq_true h]; simp only [Nat.blt]; exact Nat.ble_eq_true_of_le h
  · rw [decide_eq_false h]
    cases c : Nat.blt a b with
    | false => rfl
    | true => exact absurd (Nat.le_of_ble_eq_true c) h
theorem sx_beq {a b : Nat} : Nat.beq a b = decide (a = b) := by
  by_cases h : a = b
  · subst h; simp
  · rw [decide_eq_false h]
    cases c : Nat.beq a b with
    | false => rfl
    | true => exact absurd (Nat.eq_of_beq_eq_true c) h
theorem sx_unG_0 (un : Nat → Int64) (w : Int64) (n : Nat) : sx_unG un w n 0 = un := by
  funext q
  simp [sx_unG, sx_blt]
theorem sx_unG_t {un : Nat → Int64} {w : Int64} {n i : Nat} (h : sx_bt w i = true) : vp_updL (sx_unG un w n i) i (sx_unG un w n i i ||| sx_on n) = sx_unG un w n (i + 1) := by
  funext q
  unfold vp_updL sx_unG
  by_cases e : q = i
  · subst e; simp [sx_blt, h]
  · rw [if_neg e]
    have e2 : decide (q < i) = decide (q < i + 1) := decide_eq_decide.mpr (by omega)
    rw [sx_blt, sx_blt, e2]
theorem sx_unG_f {un : Nat → Int64} {w : Int64} {n i : Nat} (h : sx_bt w i = false) : sx_unG un w n i = sx_unG un w n (i + 1) := by
  funext q
  unfold sx_unG
  by_cases e : q = i
  · subst e; simp [h]
  · have e2 : decide (q < i) = decide (q < i + 1) := decide_eq_decide.mpr (by omega)
    rw [sx_blt, sx_blt, e2]
theorem sx_PO_add {n j : Nat} {par : Nat → Int32} (h : sx_PO n par) (h1 : 1 ≤ n) (hj : j < n) : sx_PO (n + 1) (upd par n (nI j)) := by
  refine ⟨by rw [pk_un (by omega)]; exact h.1, fun k a b => ?_⟩
  by_cases e : k = n
  · subst e; exact ⟨j, hj, pk_us⟩
  · rw [pk_un e]; exact h.2 k a (by omega)
theorem sx_U_new {n j : Nat} {par : Nat → Int32} (h : sx_PO n par) (hn : n < 60) (h1 : 1 ≤ n) (hj : j < n) (p q : Nat) (hp : p < n + 1) : sx_U (upd par n (nI j)) p q = if p = n then (Nat.beq n q || sx_U par j q) else sx_U par p q := by
  have he : ∀ k, k < n → upd par n (nI j) k = par k := fun k hk => pk_un (by omega)
  by_cases e : p = n
  · subst e
    rw [if_pos rfl, sx_U_step (sx_PO_add h h1 hj) (by omega) h1 (by omega) hj pk_us, sx_U_old h (by omega) he hj]
  · rw [if_neg e, sx_U_old h (by omega) he (by omega)]
theorem sx_RP_add {n j : Nat} {par : Nat → Int32} {ab un : Nat → Int64} (h : sx_RP n par ab un) (hP : sx_PO n par) (hn : n < 60) (h1 : 1 ≤ n) (hj : j < n) : sx_RP (n + 1) (upd par n (nI j)) (vp_updL ab n (ab j ||| sx_on n)) (sx_unG un (ab j ||| sx_on n) n (n + 1)) := by
  obtain ⟨r1, r2, r3⟩ := h
  have hw : ∀ q, q < 64 → sx_bt (ab j ||| sx_on n) q = (sx_U par j q || decide (q = n)) := fun q hq => by
    rw [sx_bt_or, sx_bt_on hq (by omega), r1 j hj q hq]
  refine ⟨fun p hp q hq => ?_, fun q hq p hp => ?_, fun q a b => ?_⟩
  · rw [sx_U_new hP hn h1 hj p q hp]
    unfold vp_updL
    by_cases e : p = n
    · subst e
      rw [if_pos rfl, if_pos rfl, hw q hq, sx_beq, Bool.or_comm]
      congr 1
      exact decide_eq_decide.mpr ⟨fun h => h.symm, fun h => h.symm⟩
    · rw [if_neg e, if_neg e]
      exact r1 p (by omega) q hq
  · have hq1 : Nat.blt q (n + 1) = true := by rw [sx_blt]; exact decide_eq_true hq
    unfold sx_unG
    rw [hq1, Bool.true_and, hw q (by omega)]
    by_cases e : q = n
    · subst e
      rw [decide_eq_true (rfl : q = q), Bool.or_true, cond_true, sx_bt_or, sx_bt_on hp (by omega), r3 q (Nat.le_refl q) (by omega), sx_bt_0, Bool.false_or, sx_blt]
      by_cases c : p < q + 1
      · rw [decide_eq_true c, Bool.true_and, sx_U_new hP hn h1 hj p q c]
        by_cases d : p = q
        · subst d; simp
        · rw [if_neg d, decide_eq_false d]
          cases f : sx_U par p q with
          | false => rfl
          | true => have := sx_U_le hP (by omega) p (by omega) f; omega
      · rw [decide_eq_false c, decide_eq_false (show ¬ p = q by omega)]; rfl
    · rw [decide_eq_false e, Bool.or_false]
      have hqn : q < n := by omega
      have key : sx_bt (bif sx_U par j q then un q ||| sx_on n else un q) p = ((decide (p < n) && sx_U par p q) || (sx_U par j q && decide (p = n))) := by
        cases f : sx_U par j q with
        | false => rw [cond_false, r2 q hqn p hp, sx_blt]; simp
        | true => rw [cond_true, sx_bt_or, r2 q hqn p hp, sx_bt_on hp (by omega), sx_blt]; simp
      rw [key, sx_blt]
      by_cases c : p < n + 1
      · rw [decide_eq_true c, Bool.true_and, sx_U_new hP hn h1 hj p q c]
        by_cases d : p = n
        · subst d
          have : ¬ p = q := fun z => e z.symm
          rw [if_pos rfl, sx_beq, decide_eq_false this]
          simp
        · rw [if_neg d, decide_eq_false d, decide_eq_true (show p < n by omega)]; simp
      · rw [decide_eq_false c, decide_eq_false (show ¬ p < n by omega), decide_eq_false (show ¬ p = n by omega)]; simp
  · unfold sx_unG
    have hq1 : Nat.blt q (n + 1) = false := by rw [sx_blt]; exact decide_eq_false (by omega)
    rw [hq1, Bool.false_and, cond_false]
    exact r3 q (by omega) b
/-- something that is taken is in the way of p -/
theorem sx_way_iff {n p : Nat} {par : Nat → Int32} {ab un : Nat → Int64} {w : Int64} {t : Nat → Bool} (h : sx_RP n par ab un) (hn : n ≤ 60) (hp : p < n) (ht : ∀ k, k < 64 → sx_bt w k = t k) (h0 : t 0 = false) (hb : ∀ k, n ≤ k → k < 64 → t k = false) :
    (((ab p ||| un p) &&& (sx_on p ^^^ (-1))) &&& w = 0) ↔ sx_any (fun k => (Nat.blt 0 k && !Nat.beq k p) && (t k && (sx_U par k p || sx_U par p k))) n = false := by
  obtain ⟨r1, r2, r3⟩ := h
  have key : ∀ k, k < 64 → sx_bt (((ab p ||| un p) &&& (sx_on p ^^^ (-1))) &&& w) k = (((sx_U par p k || (decide (k < n) && sx_U par k p)) && !decide (k = p)) && t k) := fun k hk => by
    rw [sx_bt_and, sx_bt_and, sx_bt_or, sx_bt_not _ hk, sx_bt_on hk (by omega), r1 p hp k hk, r2 p hp k hk, ht k hk, sx_blt]
  rw [sx_w0, sx_any_f]
  constructor
  · intro z k hk
    have := z k (by omega)
    rw [key k (by omega), decide_eq_true hk] at this
    rw [sx_beq]
    revert this
    cases sx_U par p k <;> cases sx_U par k p <;> cases decide (k = p) <;> cases t k <;> simp
  · intro z k hk
    rw [key k hk]
    by_cases c : k < n
    · have := z k c
      rw [sx_beq, sx_blt] at this
      rw [decide_eq_true c]
      by_cases d : 0 < k
      · rw [decide_eq_true d] at this
        revert this
        cases sx_U par p k <;> cases sx_U par k p <;> cases decide (k = p) <;> cases t k <;> simp
      · rw [show k = 0 by omega, h0, Bool.and_false]
    · rw [hb k (by omega) hk, Bool.and_false]
/-- something is taken under o -/
theorem sx_und_iff {n o : Nat} {par : Nat → Int32} {ab un : Nat → Int64} {w : Int64} {t : Nat → Bool} (h : sx_RP n par ab un) (hn : n ≤ 60) (ho : o < n) (ht : ∀ k, k < 64 → sx_bt w k = t k) (h0 : t 0 = false) :
    (un o &&& w = 0) ↔ sx_any (fun k => Nat.blt 0 k && (t k && sx_U par k o)) n = false := by
  obtain ⟨r1, r2, r3⟩ := h
  have key : ∀ k, k < 64 → sx_bt (un o &&& w) k = ((decide (k < n) && sx_U par k o) && t k) := fun k hk => by
    rw [sx_bt_and, r2 o ho k hk, ht k hk, sx_blt]
  rw [sx_w0, sx_any_f]
  constructor
  · intro z k hk
    have := z k (by omega)
    rw [key k (by omega), decide_eq_true hk] at this
    revert this
    cases sx_U par k o <;> cases t k <;> simp
  · intro z k hk
    rw [key k hk]
    by_cases c : k < n
    · have := z k c
      rw [sx_blt] at this
      rw [decide_eq_true c]
      by_cases d : 0 < k
      · rw [decide_eq_true d] at this
        revert this
        cases sx_U par k o <;> cases t k <;> simp
      · rw [show k = 0 by omega, h0, Bool.and_false]
    · rw [decide_eq_false c]; rfl
end
section
/-! Long.bitCount: the number of bits. -/
def sx_g1 (b : Nat) : Nat := b - ((b / 2) &&& 85)
def sx_g2 (y : Nat) : Nat := (y &&& 51) + ((y / 4) &&& 51)
def sx_g3 (y : Nat) : Nat := (y + y / 16) % 16
def sx_G (b : Nat) : Nat := sx_g3 (sx_g2 (sx_g1 b))
def sx_m (c : Nat) : Nat → Nat
  | 0 => 0
  | k + 1 => c + 256 * sx_m c k
def sx_s1 (k x : Nat) : Nat := x - ((x / 2) &&& sx_m 85 k)
def sx_s2 (k y : Nat) : Nat := (y &&& sx_m 51 k) + ((y / 4) &&& sx_m 51 k)
def sx_s3 (k y : Nat) : Nat := (y + y / 16) &&& sx_m 15 k
theorem sx_and256 (A μ m : Nat) (hμ : μ < 256) : A &&& (μ + 256 * m) = ((A % 256) &&& μ) + 256 * ((A / 256) &&& m) := by
  have h1 : (A &&& (μ + 256 * m)) % 2 ^ 8 = (A % 2 ^ 8) &&& ((μ + 256 * m) % 2 ^ 8) := Nat.and_mod_two_pow
  have h2 : (A &&& (μ + 256 * m)) / 2 ^ 8 = (A / 2 ^ 8) &&& ((μ + 256 * m) / 2 ^ 8) := Nat.and_div_two_pow
  rw [show (μ + 256 * m) % 2 ^ 8 = μ by omega] at h1
  rw [show (μ + 256 * m) / 2 ^ 8 = m by omega] at h2
  have e : (2 : Nat) ^ 8 = 256 := by decide
  rw [e] at h1 h2
  rw [← h1, ← h2]
  omega
theorem sx_andlow (A μ s : Nat) (hμ : μ < 2 ^ s) : A &&& μ = (A % 2 ^ s) &&& μ := by
  have h1 : (A &&& μ) % 2 ^ s = (A % 2 ^ s) &&& (μ % 2 ^ s) := Nat.and_mod_two_pow
  rw [Nat.mod_eq_of_lt hμ, Nat.mod_eq_of_lt (Nat.lt_of_le_of_lt Nat.and_le_right hμ)] at h1
  exact h1
theorem sx_s1_s (k b y : Nat) (hb : b < 256) : sx_s1 (k + 1) (b + 256 * y) = sx_g1 b + 256 * sx_s1 k y := by
  unfold sx_s1 sx_g1
  rw [show sx_m 85 (k + 1) = 85 + 256 * sx_m 85 k from rfl, sx_and256 _ 85 _ (by decide), sx_andlow _ 85 7 (by decide), show (b + 256 * y) / 2 % 256 % 2 ^ 7 = b / 2 by omega, show (b + 256 * y) / 2 / 256 = y / 2 by omega]
  have h1 : (b / 2) &&& 85 ≤ b / 2 := Nat.and_le_left
  have h2 : (y / 2) &&& sx_m 85 k ≤ y / 2 := Nat.and_le_left
  generalize (b / 2) &&& 85 = u at h1 ⊢
  generalize (y / 2) &&& sx_m 85 k = v at h2 ⊢
  omega
theorem sx_s2_s (k b y : Nat) (hb : b < 256) : sx_s2 (k + 1) (b + 256 * y) = sx_g2 b + 256 * sx_s2 k y := by
  unfold sx_s2 sx_g2
  rw [show sx_m 51 (k + 1) = 51 + 256 * sx_m 51 k from rfl, sx_and256 _ 51 _ (by decide), sx_and256 _ 51 _ (by decide), sx_andlow ((b + 256 * y) / 4 % 256) 51 6 (by decide), show (b + 256 * y) / 4 % 256 % 2 ^ 6 = b / 4 by omega, show (b + 256 * y) / 4 / 256 = y / 4 by omega, show (b + 256 * y) % 256 = b by omega, show (b + 256 * y) / 256 = y by omega]
  omega
theorem sx_s3_s (k c y : Nat) (hc : c ≤ 68) (hy : y % 16 ≤ 4) : sx_s3 (k + 1) (c + 256 * y) = sx_g3 c + 256 * sx_s3 k y := by
  unfold sx_s3 sx_g3
  rw [show sx_m 15 (k + 1) = 15 + 256 * sx_m 15 k from rfl, sx_and256 _ 15 _ (by decide), show (c + 256 * y + (c + 256 * y) / 16) / 256 = y + y / 16 by omega]
  have h : (c + 256 * y + (c + 256 * y) / 16) % 256 &&& 15 = (c + c / 16) % 16 := by
    rw [show (15 : Nat) = 2 ^ 4 - 1 from rfl, Nat.and_two_pow_sub_one_eq_mod]
    omega
  rw [h]
theorem sx_byte : ∀ b, b < 256 → sx_g1 b < 256 ∧ sx_g2 (sx_g1 b) ≤ 68 ∧ sx_g2 (sx_g1 b) % 16 ≤ 4 ∧ sx_G b = sx_cnt (fun j => b.testBit j) 8 := by decide +kernel
theorem sx_nib (k x : Nat) : sx_s2 k (sx_s1 k x) % 16 ≤ 4 := by
  cases k with
  | zero => simp [sx_s2, sx_m]
  | succ k =>
    have e : x = x % 256 + 256 * (x / 256) := by omega
    have hb := sx_byte (x % 256) (by omega)
    rw [e, sx_s1_s k _ _ (by omega), sx_s2_s k _ _ hb.1]
    have := hb.2.2.1
    omega
theorem sx_F_s (k b y : Nat) (hb : b < 256) : sx_s3 (k + 1) (sx_s2 (k + 1) (sx_s1 (k + 1) (b + 256 * y))) = sx_G b + 256 * sx_s3 k (sx_s2 k (sx_s1 k y)) := by
  have h := sx_byte b hb
  rw [sx_s1_s k b y hb, sx_s2_s k _ _ h.1, sx_s3_s k _ _ h.2.1 (sx_nib k y)]
  rfl
theorem sx_cnt_add (f : Nat → Bool) (a b : Nat) : sx_cnt f (a + b) = sx_cnt f a + sx_cnt (fun j => f (a + j)) b := by
  induction b with
  | zero => rfl
  | succ b ih =>
    show sx_cnt f (a + b) + (bif f (a + b) then 1 else 0) = _
    rw [ih]
    simp only [sx_cnt]
    omega
theorem sx_cnt_byte (x m : Nat) : sx_cnt (fun j => x.testBit j) (8 + m) = sx_G (x % 256) + sx_cnt (fun j => (x / 256).testBit j) m := by
  rw [sx_cnt_add, (sx_byte (x % 256) (by omega)).2.2.2]
  congr 1
  · refine sx_cnt_congr fun k hk => ?_
    rw [show (256 : Nat) = 2 ^ 8 from rfl, Nat.testBit_mod_two_pow]
    simp [hk]
  · refine sx_cnt_congr fun k hk => ?_
    rw [show (256 : Nat) = 2 ^ 8 from rfl, Nat.testBit_div_two_pow, Nat.add_comm]
theorem sx_G_le (b : Nat) (hb : b < 256) : sx_G b ≤ 8 := by
  rw [(sx_byte b hb).2.2.2]
  exact sx_cnt_le _ 8
def sx_fin (y : Nat) : Nat := ((y + y / 256) + (y + y / 256) / 65536) + ((y + y / 256) + (y + y / 256) / 65536) / 4294967296
theorem sx_sum8 (p0 p1 p2 p3 p4 p5 p6 p7 : Nat) (g0 : p0 ≤ 8) (g1 : p1 ≤ 8) (g2 : p2 ≤ 8) (g3 : p3 ≤ 8) (g4 : p4 ≤ 8) (g5 : p5 ≤ 8) (g6 : p6 ≤ 8) (g7 : p7 ≤ 8) : sx_fin (p0 + 256 * (p1 + 256 * (p2 + 256 * (p3 + 256 * (p4 + 256 * (p5 + 256 * (p6 + 256 * (p7 + 256 * 0)))))))) % 128 = p0 + (p1 + (p2 + (p3 + (p4 + (p5 + (p6 + (p7 + 0))))))) := by
  unfold sx_fin
  obtain ⟨y, hy⟩ : ∃ y, y = p0 + 256 * (p1 + 256 * (p2 + 256 * (p3 + 256 * (p4 + 256 * (p5 + 256 * (p6 + 256 * (p7 + 256 * 0))))))) := ⟨_, rfl⟩
  rw [← hy]
  have e1 : y / 256 = p1 + 256 * (p2 + 256 * (p3 + 256 * (p4 + 256 * (p5 + 256 * (p6 + 256 * p7))))) := by omega
  rw [e1]
  obtain ⟨v, hv⟩ : ∃ v, v = (p4 + p5) + 256 * (p5 + p6) + 65536 * (p6 + p7) + 16777216 * p7 := ⟨_, rfl⟩
  obtain ⟨t, ht⟩ : ∃ t, t = (p2 + p3) + 256 * (p3 + p4) + 65536 * v := ⟨_, rfl⟩
  obtain ⟨u, hu⟩ : ∃ u, u = y + (p1 + 256 * (p2 + 256 * (p3 + 256 * (p4 + 256 * (p5 + 256 * (p6 + 256 * p7)))))) := ⟨_, rfl⟩
  rw [← hu]
  have e2 : u = (p0 + p1) + 256 * (p1 + p2) + 65536 * t := by omega
  have e3 : u / 65536 = t := by clear e1 hu hy ht hv; omega
  rw [e3]
  obtain ⟨z, hz⟩ : ∃ z, z = (p4 + p5 + p6 + p7) + 256 * (p5 + p6 + p7) + 65536 * (p6 + p7) + 16777216 * p7 := ⟨_, rfl⟩
  obtain ⟨w, hw⟩ : ∃ w, w = u + t := ⟨_, rfl⟩
  rw [← hw]
  have e4 : w = (p0 + p1 + p2 + p3) + 256 * (p1 + p2 + p3 + p4) + 65536 * (p2 + p3 + p4 + p5) + 16777216 * (p3 + p4 + p5 + p6) + 4294967296 * z := by omega
  have e5 : w / 4294967296 = z := by clear e1 e2 e3 hu hy ht hv hw hz; omega
  rw [e5]
  clear e1 e2 e3 hu hy ht hv hw e5
  omega
theorem sx_pop (x : Nat) (hx : x < 2 ^ 64) : sx_fin (sx_s3 8 (sx_s2 8 (sx_s1 8 x))) % 128 = sx_cnt (fun j => x.testBit j) 64 := by
  have cut : ∀ z : Nat, z = z % 256 + 256 * (z / 256) := fun z => by omega
  have step : ∀ k z, sx_s3 (k + 1) (sx_s2 (k + 1) (sx_s1 (k + 1) z)) = sx_G (z % 256) + 256 * sx_s3 k (sx_s2 k (sx_s1 k (z / 256))) := fun k z => by
    have := sx_F_s k (z % 256) (z / 256) (by omega)
    rw [← cut z] at this
    exact this
  have z0 : ∀ z, sx_s3 0 (sx_s2 0 (sx_s1 0 z)) = 0 := fun z => by simp [sx_s3, sx_m]
  rw [show (64 : Nat) = 8 + (8 + (8 + (8 + (8 + (8 + (8 + (8 + 0))))))) from rfl, sx_cnt_byte, sx_cnt_byte, sx_cnt_byte, sx_cnt_byte, sx_cnt_byte, sx_cnt_byte, sx_cnt_byte, sx_cnt_byte]
  rw [step 7, step 6, step 5, step 4, step 3, step 2, step 1, step 0, z0]
  exact sx_sum8 _ _ _ _ _ _ _ _ (sx_G_le _ (by omega)) (sx_G_le _ (by omega)) (sx_G_le _ (by omega)) (sx_G_le _ (by omega)) (sx_G_le _ (by omega)) (sx_G_le _ (by omega)) (sx_G_le _ (by omega)) (sx_G_le _ (by omega))
end
section
/-! A store: words of files and links, values; w: what is at each path. -/
def sx_RW (w v : Nat → Int32) (f l : Int64) : Prop := (∀ j, j < 64 → sx_bt f j = (decide (j < 60) && decide (0 < w j))) ∧ (∀ j, j < 64 → sx_bt l j = (decide (j < 60) && decide (w j < 0))) ∧ (∀ j, j < 60 → 0 < w j → v j = w j) ∧ ∀ j, j < 60 → ∀ q, q < 60 → w j = -1 - nI q → v j = nI q
theorem sx_pos_neg {x : Int32} (h : 0 < x) : ¬ x < 0 := fun z => Int32.lt_irrefl (Int32.lt_trans h z)
theorem sx_i0 : (0 : Int32).toInt = 0 := by decide
theorem sx_i1 : (1 : Int32).toInt = 1 := by decide
theorem sx_im1 : (-1 : Int32).toInt = -1 := by decide
theorem sx_tri {x : Int32} (h1 : ¬ 0 < x) (h2 : ¬ x < 0) : x = 0 := by
  rw [Int32.lt_iff_toInt_lt, sx_i0] at h1 h2
  exact Int32.toInt_inj.mp (by rw [sx_i0]; omega)
theorem sx_lk {q : Nat} (h : q < 2 ^ 30) : (-1 - nI q : Int32) < 0 ∧ ¬ 0 < (-1 - nI q : Int32) ∧ (-1 - (-1 - nI q) : Int32) = nI q := by
  have e : (-1 - nI q : Int32).toInt = -1 - (q : Int) := by
    rw [Int32.toInt_sub, sx_im1, nI_toInt (by omega)]
    simp only [Int.bmod]
    omega
  have l1 : (-1 - nI q : Int32) < 0 := by rw [Int32.lt_iff_toInt_lt, e, sx_i0]; omega
  refine ⟨l1, fun z => sx_pos_neg z l1, Int32.toInt_inj.mp ?_⟩
  rw [Int32.toInt_sub, e, sx_im1, nI_toInt (by omega)]
  simp only [Int.bmod]
  omega
theorem sx_lk_inj {q r : Nat} (hq : q < 2 ^ 30) (hr : r < 2 ^ 30) (h : (-1 - nI q : Int32) = -1 - nI r) : q = r := by
  have := congrArg (fun x : Int32 => -1 - x) h
  simp only [(sx_lk hq).2.2, (sx_lk hr).2.2] at this
  exact (nI_eq (by omega) (by omega)).mp this
theorem sx_RW_tk {w v : Nat → Int32} {f l : Int64} (h : sx_RW w v f l) {j : Nat} (hj : j < 64) : sx_bt (f ||| l) j = (decide (j < 60) && !decide (w j = 0)) := by
  rw [sx_bt_or, h.1 j hj, h.2.1 j hj]
  cases decide (j < 60) with
  | false => rfl
  | true =>
    simp only [Bool.true_and]
    by_cases a : 0 < w j
    · rw [decide_eq_true a, Bool.true_or]
      have : ¬ w j = 0 := fun z => by rw [z] at a; exact absurd a (by decide)
      rw [decide_eq_false this]; rfl
    · rw [decide_eq_false a, Bool.false_or]
      by_cases b : w j < 0
      · have : ¬ w j = 0 := fun z => by rw [z] at b; exact absurd b (by decide)
        rw [decide_eq_true b, decide_eq_false this]; rfl
      · rw [decide_eq_false b, decide_eq_true (sx_tri a b)]; rfl
theorem sx_RW_away {w v : Nat → Int32} {f l : Int64} {p : Nat} (h : sx_RW w v f l) (hp : p < 60) : sx_RW (upd w p 0) v (f &&& (sx_on p ^^^ (-1))) (l &&& (sx_on p ^^^ (-1))) := by
  obtain ⟨h1, h2, h3, h4⟩ := h
  refine ⟨fun j hj => ?_, fun j hj => ?_, fun j hj z => ?_, fun j hj q hq z => ?_⟩
  · rw [sx_bt_and, sx_bt_not _ hj, sx_bt_on hj (by omega), h1 j hj]
    unfold upd
    by_cases e : j = p
    · subst e; simp
    · simp [e]
  · rw [sx_bt_and, sx_bt_not _ hj, sx_bt_on hj (by omega), h2 j hj]
    unfold upd
    by_cases e : j = p
    · subst e; simp
    · simp [e]
  · unfold upd at z ⊢
    by_cases e : j = p
    · rw [if_pos e] at z; exact absurd z (by decide)
    · rw [if_neg e] at z ⊢; exact h3 j hj z
  · unfold upd at z
    by_cases e : j = p
    · rw [if_pos e] at z
      have := (sx_lk (q := q) (by omega)).1
      rw [← z] at this; exact absurd this (by decide)
    · rw [if_neg e] at z; exact h4 j hj q hq z
theorem sx_RW_put {w v : Nat → Int32} {f l : Int64} {p : Nat} {c : Int32} (h : sx_RW w v f l) (hp : p < 60) (hc : 0 < c) : sx_RW (upd w p c) (upd v p c) ((f &&& (sx_on p ^^^ (-1))) ||| sx_on p) (l &&& (sx_on p ^^^ (-1))) := by
  obtain ⟨h1, h2, h3, h4⟩ := h
  refine ⟨fun j hj => ?_, fun j hj => ?_, fun j hj z => ?_, fun j hj q hq z => ?_⟩
  · rw [sx_bt_or, sx_bt_and, sx_bt_not _ hj, sx_bt_on hj (by omega), h1 j hj]
    unfold upd
    by_cases e : j = p
    · subst e; simp [hp, hc]
    · simp [e]
  · rw [sx_bt_and, sx_bt_not _ hj, sx_bt_on hj (by omega), h2 j hj]
    unfold upd
    by_cases e : j = p
    · subst e; simp [sx_pos_neg hc]
    · simp [e]
  · unfold upd at z ⊢
    by_cases e : j = p
    · rw [if_pos e, if_pos e]
    · rw [if_neg e] at z; rw [if_neg e, if_neg e]; exact h3 j hj z
  · unfold upd at z ⊢
    by_cases e : j = p
    · rw [if_pos e] at z
      have := (sx_lk (q := q) (by omega)).1
      rw [← z] at this; exact absurd this (sx_pos_neg hc)
    · rw [if_neg e] at z; rw [if_neg e]; exact h4 j hj q hq z
theorem sx_RW_link {w v : Nat → Int32} {f l : Int64} {p r : Nat} (h : sx_RW w v f l) (hp : p < 60) (hr : r < 60) : sx_RW (upd w p (-1 - nI r)) (upd v p (nI r)) (f &&& (sx_on p ^^^ (-1))) ((l &&& (sx_on p ^^^ (-1))) ||| sx_on p) := by
  obtain ⟨h1, h2, h3, h4⟩ := h
  obtain ⟨k1, k2, k3⟩ := sx_lk (q := r) (by omega)
  refine ⟨fun j hj => ?_, fun j hj => ?_, fun j hj z => ?_, fun j hj q hq z => ?_⟩
  · rw [sx_bt_and, sx_bt_not _ hj, sx_bt_on hj (by omega), h1 j hj]
    unfold upd
    by_cases e : j = p
    · subst e; simp [k2]
    · simp [e]
  · rw [sx_bt_or, sx_bt_and, sx_bt_not _ hj, sx_bt_on hj (by omega), h2 j hj]
    unfold upd
    by_cases e : j = p
    · subst e; simp [hp, k1]
    · simp [e]
  · unfold upd at z ⊢
    by_cases e : j = p
    · rw [if_pos e] at z; exact absurd z k2
    · rw [if_neg e] at z; rw [if_neg e, if_neg e]; exact h3 j hj z
  · unfold upd at z ⊢
    by_cases e : j = p
    · rw [if_pos e] at z; rw [if_pos e, sx_lk_inj (by omega) (by omega) z]
    · rw [if_neg e] at z; rw [if_neg e]; exact h4 j hj q hq z
/-- what leadsTo answers: at most so many steps -/
def sx_lR (v : Nat → Int32) (f l : Int64) : Nat → Int32 → Int32
  | 0, _ => 0
  | k + 1, x => bif sx_has 60 x then (bif sx_bt f x.toNatClampNeg then v x.toNatClampNeg else (bif sx_bt l x.toNatClampNeg then sx_lR v f l k (v x.toNatClampNeg) else 0)) else 0
theorem sx_lR_ld {w v : Nat → Int32} {f l : Int64} (h : sx_RW w v f l) (hl : ∀ j, j < 60 → w j < 0 → ∃ q, q < 60 ∧ w j = -1 - nI q) : ∀ k p, p < 60 → sx_lR v f l (k + 1) (nI p) = sx_ld w k (w p) := by
  obtain ⟨h1, h2, h3, h4⟩ := h
  intro k
  induction k with
  | zero =>
    intro p hp
    simp only [sx_lR, sx_ld]
    rw [sx_has_nI (by omega) hp, nI_clamp (by omega), cond_true, h1 p (by omega), decide_eq_true hp, Bool.true_and]
    by_cases c : 0 < w p
    · rw [decide_eq_true c, cond_true, if_pos c]; exact h3 p hp c
    · rw [decide_eq_false c, cond_false, if_neg c]
      cases sx_bt l p <;> rfl
  | succ k ih =>
    intro p hp
    have e : sx_lR v f l (k + 1 + 1) (nI p) = bif sx_has 60 (nI p) then (bif sx_bt f (nI p).toNatClampNeg then v (nI p).toNatClampNeg else (bif sx_bt l (nI p).toNatClampNeg then sx_lR v f l (k + 1) (v (nI p).toNatClampNeg) else 0)) else 0 := rfl
    rw [e, sx_has_nI (by omega) hp, nI_clamp (by omega), cond_true, h1 p (by omega), h2 p (by omega), decide_eq_true hp, Bool.true_and, Bool.true_and]
    simp only [sx_ld]
    by_cases c : 0 < w p
    · rw [decide_eq_true c, cond_true, if_neg (sx_pos_neg c), if_pos c]; exact h3 p hp c
    · rw [decide_eq_false c, cond_false]
      by_cases d : w p < 0
      · obtain ⟨q, q1, q2⟩ := hl p hp d
        rw [decide_eq_true d, cond_true, if_pos d, h4 p hp q q1 q2, ih q q1, q2, (sx_lk (by omega)).2.2, nI_clamp (by omega)]
      · rw [decide_eq_false d, cond_false, if_neg d, if_neg c]
/-- leadsTo in a store without links -/
theorem sx_lR_src {w v : Nat → Int32} {f l : Int64} (h : sx_RW w v f l) {p : Nat} (hp : p < 60) (hs : ∀ j, ¬ w j < 0) : sx_lR v f l 5 (nI p) = w p := by
  rw [sx_lR_ld h (fun j _ z => absurd z (hs j)) 4 p hp]
  simp only [sx_ld]
  rw [if_neg (hs p)]
  by_cases c : 0 < w p
  · rw [if_pos c]
  · rw [if_neg c, sx_tri c (hs p)]
end
section
/-! Letters, clashes, listing. -/
theorem sx_isL_nat {c : Int32} (h : sx_isL c = true) : ∃ k : Nat, (65 ≤ k ∧ k < 123) ∧ c = nI k := by
  simp only [sx_isL, Bool.or_eq_true, Bool.and_eq_true, decide_eq_true_eq, Int32.le_iff_toInt_le] at h
  have e1 : (97 : Int32).toInt = 97 := by decide
  have e2 : (122 : Int32).toInt = 122 := by decide
  have e3 : (65 : Int32).toInt = 65 := by decide
  have e4 : (90 : Int32).toInt = 90 := by decide
  rw [e1, e2, e3, e4] at h
  have h0 : ¬ c < 0 := by rw [Int32.lt_iff_toInt_lt, sx_i0]; omega
  obtain ⟨k, hk, rfl⟩ := nI_of h0
  rw [nI_toInt hk] at h
  exact ⟨k, by omega, rfl⟩
/-- the twin of a letter: its case changed -/
def sx_tw (c : Int32) : Int32 := ((c ^^^ 32).toUInt32 % 65536).toInt32
theorem sx_tw_all : ∀ k, k < 123 → sx_isL (nI k) = true → sx_isL (sx_tw (nI k)) = true ∧ sx_tw (nI k) ≠ nI k ∧ sx_low (sx_tw (nI k)) = sx_low (nI k) := by decide +kernel
theorem sx_low_tab : (List.range 123).all (fun k => (List.range 123).all (fun m => (!sx_isL (nI k) || !sx_isL (nI m)) || (!decide (sx_low (nI k) = sx_low (nI m)) || (decide (k = m) || decide (nI m = sx_tw (nI k)))))) = true := by decide +kernel
theorem sx_low_all (k : Nat) (hk : k < 123) (m : Nat) (hm : m < 123) (h1 : sx_isL (nI k) = true) (h2 : sx_isL (nI m) = true) (e : sx_low (nI k) = sx_low (nI m)) : k = m ∨ nI m = sx_tw (nI k) := by
  have a := List.all_eq_true.mp (List.all_eq_true.mp sx_low_tab k (List.mem_range.mpr hk)) m (List.mem_range.mpr hm)
  rw [h1, h2, decide_eq_true e] at a
  simpa using a
theorem sx_tw_ok {c : Int32} (h : sx_isL c = true) : sx_isL (sx_tw c) = true ∧ sx_tw c ≠ c ∧ sx_low (sx_tw c) = sx_low c := by
  obtain ⟨k, k1, rfl⟩ := sx_isL_nat h
  exact sx_tw_all k k1.2 h
theorem sx_low_ok {c d : Int32} (h : sx_isL c = true) (h2 : sx_isL d = true) (e : sx_low c = sx_low d) : c = d ∨ d = sx_tw c := by
  obtain ⟨k, k1, rfl⟩ := sx_isL_nat h
  obtain ⟨m, m1, rfl⟩ := sx_isL_nat h2
  rcases sx_low_all k k1.2 m m1.2 h h2 e with q | q
  · exact Or.inl (by rw [q])
  · exact Or.inr q
/-- the only path with this parent and letter -/
theorem sx_ch_at {n k : Nat} {α : sx_A} (hn : n < 2 ^ 31) (hD : sx_DI n α) (h0 : 0 < k) (hk : k < n) : sx_ch α (α 1 k) (α 2 k) n = nI k := by
  rcases sx_ch_ok (α := α) (p := α 1 k) (c := α 2 k) n hn with ⟨_, b⟩ | ⟨i, a, b, c, d, f⟩
  · exact absurd ⟨rfl, rfl⟩ (b k h0 hk)
  · rw [f, hD i k a b h0 hk c d]
theorem sx_clash {n na L : Nat} {α : sx_A} {w : Int64} {t : Nat → Bool} (h : sx_INV n na L α) (ht : ∀ k, k < n → sx_bt w k = t k) :
    sx_any (fun p => Nat.blt 0 p && (sx_bt w p && (!decide (sx_ch α (α 1 p) (sx_tw (α 2 p)) n = -1) && sx_bt w (sx_ch α (α 1 p) (sx_tw (α 2 p)) n).toNatClampNeg))) n
      = sx_any (fun p => Nat.blt 0 p && sx_any (fun k => Nat.blt 0 k && ((t p && t k) && (decide (α 1 p = α 1 k) && decide (sx_low (α 2 p) = sx_low (α 2 k))))) p) n := by
  have hn := sx_INV_n h
  have hL : sx_LT n α := h.2.2.1
  have hD : sx_DI n α := h.2.2.2.1
  have iff : ∀ a b : Bool, (a = true ↔ b = true) → a = b := fun a b => by cases a <;> cases b <;> simp
  apply iff
  rw [sx_any_t, sx_any_t]
  simp only [Bool.and_eq_true, Bool.not_eq_true', decide_eq_false_iff_not, sx_blt, decide_eq_true_eq]
  constructor
  · rintro ⟨p, hp, p0, b1, b2, b3⟩
    rcases sx_ch_ok (α := α) (p := α 1 p) (c := sx_tw (α 2 p)) n hn with ⟨e, _⟩ | ⟨k, k0, k1, k2, k3, k4⟩
    · exact absurd e b2
    · rw [k4, nI_clamp (by omega)] at b3
      have tw := sx_tw_ok (hL p p0 hp)
      rw [ht p hp] at b1
      rw [ht k k1] at b3
      have hne : k ≠ p := fun z => by subst z; exact tw.2.1 k3.symm
      rcases Nat.lt_or_ge k p with q | q
      · exact ⟨p, hp, p0, sx_any_t.mpr ⟨k, q, by simp only [Bool.and_eq_true, sx_blt, decide_eq_true_eq]; exact ⟨k0, ⟨b1, b3⟩, k2.symm, by rw [k3, tw.2.2]⟩⟩⟩
      · exact ⟨k, k1, k0, sx_any_t.mpr ⟨p, by omega, by simp only [Bool.and_eq_true, sx_blt, decide_eq_true_eq]; exact ⟨p0, ⟨b3, b1⟩, k2, by rw [k3, tw.2.2]⟩⟩⟩
  · rintro ⟨p, hp, p0, e⟩
    obtain ⟨k, k1, e⟩ := sx_any_t.mp e
    simp only [Bool.and_eq_true, sx_blt, decide_eq_true_eq] at e
    obtain ⟨k0, ⟨b1, b2⟩, e1, e2⟩ := e
    have hk : k < n := by omega
    rcases sx_low_ok (hL p p0 hp) (hL k k0 hk) e2 with q | q
    · have := hD p k p0 hp k0 hk e1 q
      omega
    · have hc := sx_ch_at hn hD k0 hk
      rw [← e1, q] at hc
      refine ⟨p, hp, p0, by rw [ht p hp]; exact b1, ?_, ?_⟩
      · rw [hc]; exact sx_nI_m1 (by omega)
      · rw [hc, nI_clamp (by omega), ht k hk]; exact b2
/-- the letters in a folder -/
theorem sx_list_q {n na L : Nat} {α : sx_A} {p : Int32} {c : Nat} {t : Nat → Bool} (h : sx_INV n na L α) :
    sx_any (fun k => Nat.blt 0 k && ((decide (α 1 k = p) && decide (α 2 k = nI c)) && t k)) n = (!decide (sx_ch α p (nI c) n = -1) && t (sx_ch α p (nI c) n).toNatClampNeg) := by
  have hn := sx_INV_n h
  have hD : sx_DI n α := h.2.2.2.1
  rcases sx_ch_ok (α := α) (p := p) (c := nI c) n hn with ⟨e, b⟩ | ⟨k, k0, k1, k2, k3, k4⟩
  · rw [e, decide_eq_true rfl, Bool.not_true, Bool.false_and, sx_any_f]
    intro k hk
    by_cases z : 0 < k
    · have := b k z hk
      by_cases y : α 1 k = p
      · have : ¬ α 2 k = nI c := fun x => this ⟨y, x⟩
        simp [this]
      · simp [y]
    · simp [sx_blt, z]
  · rw [k4, decide_eq_false (sx_nI_m1 (by omega)), nI_clamp (by omega), Bool.not_false, Bool.true_and]
    cases e : t k with
    | true => exact sx_any_t.mpr ⟨k, k1, by simp [sx_blt, k0, k2, k3, e]⟩
    | false =>
      rw [sx_any_f]
      intro i hi
      by_cases z : (0 < i ∧ α 1 i = p) ∧ α 2 i = nI c
      · have := hD i k z.1.1 hi k0 k1 (z.1.2.trans k2.symm) (z.2.trans k3.symm)
        rw [this, e, Bool.and_false, Bool.and_false]
      · by_cases y : 0 < i <;> by_cases x : α 1 i = p <;> by_cases u : α 2 i = nI c <;> simp [sx_blt, y, x, u] <;> exact absurd ⟨⟨y, x⟩, u⟩ z
end
section
/-! Rules: the context's facts move; calls; loops; ints by their numbers. -/
def sx_ty (cA : Nat → ClassId) : List (ClassId × FieldType) := [(cA 0, .int), (cA 1, .boolean), (cA 2, .char), (cA 3, .long), (cA 4, .object "SandboxTree$Action")]
def sx_K (D : va_G) (cA : Nat → ClassId) (U : State) : Prop := va_K D vwCl (sx_ty cA) U ∧ sx_NW U ∧ va_AO "SandboxTree$Action" U
theorem sx_K.moved {D : va_G} {cA : Nat → ClassId} {s U : State} (hW : s.WarmedH U.vm) (h : sx_K D cA s) : sx_K D cA U := ⟨va_K.moved hW.alike h.1, sx_NW.warm hW h.2.1, va_AO.moved hW.alike h.2.2⟩
theorem sx_K.call {D : va_G} {cA : Nat → ClassId} {U : State} {g : JFrame} {mk : MethodId} {a : Array Value} (h : sx_K D cA U) : sx_K D cA (U.calling g mk a) := ⟨va_K.moved (u := U) (U := U.calling g mk a) (Vm.Alike.refl U.vm) h.1, sx_NW.same (u := U) (U := U.calling g mk a) rfl h.2.1, va_AO.moved (u := U) (U := U.calling g mk a) (Vm.Alike.refl U.vm) h.2.2⟩
abbrev sx_Pr (D : va_G) (cA : Nat → ClassId) (av : List Value) (wc : va_W) : Array Value → State → Prop := va_Pc av (fun U => va_P D vwCl wc U.heap ∧ sx_K D cA U)
abbrev sx_Pw (D : va_G) (cA : Nat → ClassId) (av : List Value) (wc : va_W) (sz : Nat) : Array Value → State → Prop := va_Pc av (fun U => U.heap.size = sz ∧ va_P D vwCl wc U.heap ∧ sx_K D cA U ∧ va_D (fun _ => True) wc)
abbrev sx_Bw {S : Type} (D : va_G) (wc : va_W) (sz : Nat) (w1 : S → va_W) : S → State → Prop := fun u t => va_P D vwCl (w1 u) t.heap ∧ va_D (va_A wc sz) (w1 u)
theorem sx_preV {D : va_G} {cA : Nat → ClassId} {s : State} {H : Heap} {C : String} {b : Addr} {As : List Value} {wc : va_W} (hK : sx_K D cA s) (hP : va_P D vwCl wc H) (hr : ∃ cell : Cell, H[b]? = some cell ∧ cell.vm.isStatics = false ∧ s.vm.findClass C = some cell.cls) : PreV s H C b (sx_Pr D cA (.ref b :: As) wc) As :=
  ⟨fun _ _ _ _ q => ⟨q.1, q.2.1, q.2.2.call⟩, hr, fun U hU hW => ⟨rfl, by rw [hU]; exact hP, hK.moved hW⟩⟩
theorem sx_preS {D : va_G} {cA : Nat → ClassId} {s : State} {H : Heap} {As : List Value} {wc : va_W} (hK : sx_K D cA s) (hP : va_P D vwCl wc H) : PreS s H (sx_Pr D cA As wc) As :=
  ⟨fun _ _ _ _ q => ⟨q.1, q.2.1, q.2.2.call⟩, fun U hU hW => ⟨rfl, by rw [hU]; exact hP, hK.moved hW⟩⟩
theorem sx_preVw {D : va_G} {cA : Nat → ClassId} {s : State} {H : Heap} {C : String} {b : Addr} {As : List Value} {wc : va_W} {A : Nat → Prop} (hK : sx_K D cA s) (hP : va_P D vwCl wc H) (hD : va_D A wc) (hr : ∃ cell : Cell, H[b]? = some cell ∧ cell.vm.isStatics = false ∧ s.vm.findClass C = some cell.cls) : PreV s H C b (sx_Pw D cA (.ref b :: As) wc H.size) As :=
  ⟨fun _ _ _ _ q => ⟨q.1, q.2.1, q.2.2.1, q.2.2.2.1.call, q.2.2.2.2⟩, hr, fun U hU hW => ⟨rfl, by rw [hU], by rw [hU]; exact hP, hK.moved hW, hD.weaken (fun _ _ _ _ => trivial)⟩⟩
theorem sx_preSw {D : va_G} {cA : Nat → ClassId} {s : State} {H : Heap} {As : List Value} {wc : va_W} {A : Nat → Prop} (hK : sx_K D cA s) (hP : va_P D vwCl wc H) (hD : va_D A wc) : PreS s H (sx_Pw D cA As wc H.size) As :=
  ⟨fun _ _ _ _ q => ⟨q.1, q.2.1, q.2.2.1, q.2.2.2.1.call, q.2.2.2.2⟩, fun U hU hW => ⟨rfl, by rw [hU], by rw [hU]; exact hP, hK.moved hW, hD.weaken (fun _ _ _ _ => trivial)⟩⟩
section SXC
variable {p : Program} {l : Launch} {e : Env} {R : Room} {s : State} {m : MethodId} {args : Array Value} {below : List Frame} {meth : Method} {c : Code} {H : Heap} {locs : List Loc} {cells slots : Nat} {Q : State → Prop}
variable {pc : Nat} {ls : Array Slot} {rest st0 : List Value} {a : Array Value} {A0 : Nat → Prop} {H0 : Heap} {mc ms : Nat} {D : va_G} {ws wc wr : va_W}
theorem sx_calli {S : Type} {post : Int32 → S → Prop} {w1 : S → va_W} (hr : va_Run p l e R s m args below meth c H locs cells slots mc ms (F0 m pc ls st0) rest (va_Qi post (sx_Bw D wc H.size w1) (va_A wc H.size) a) (va_A wc H.size)) (hP : va_P D vwCl ws H) (hD : va_D A0 ws) (hS : va_S A0 H0 H locs) (hA : ∀ q, H0.size ≤ q → A0 q)
    (isC isR : List Nat) (hC : isC.map (fun i => ws[i]?) = wc.map some) (hR : isR.map (fun i => ws[i]?) = wr.map some) (hn : va_nd isR = true) (hdis : ∀ i ∈ isR, i ∉ isC)
    (kk : ∀ (r : Int32) (u : S) (H1 : Heap) (locs1 : List Loc), post r u → va_P D vwCl (wr ++ w1 u) H1 → va_D A0 (wr ++ w1 u) → va_S A0 H0 H1 locs1 → W p l e R s m args below meth c H1 locs1 (cells + mc) (slots + ms) Q (F0 m (pc + 3) ls (.int r :: rest))) : W p l e R s m args below meth c H locs cells slots Q (F0 m pc ls st0) := by
  have hF := va_free hD hS hA isC hC
  refine va_calli hr hS (fun q _ h => hF q h) hF (fun r u t H1 locs1 ht _ hw hB _ hk hS1 => ?_)
  obtain ⟨hP1, hD1⟩ := hB
  rw [ht] at hP1
  obtain ⟨g1, g2⟩ := va_join hP hD isC isR hC hR hn hdis hk hF hP1 hD1
  exact kk r u H1 locs1 hw g1 g2 hS1
theorem sx_callv {S : Type} {post : S → Prop} {w1 : S → va_W} (hr : va_Run p l e R s m args below meth c H locs cells slots mc ms (F0 m pc ls st0) rest (va_Qv post (sx_Bw D wc H.size w1) (va_A wc H.size) a) (va_A wc H.size)) (hP : va_P D vwCl ws H) (hD : va_D A0 ws) (hS : va_S A0 H0 H locs) (hA : ∀ q, H0.size ≤ q → A0 q)
    (isC isR : List Nat) (hC : isC.map (fun i => ws[i]?) = wc.map some) (hR : isR.map (fun i => ws[i]?) = wr.map some) (hn : va_nd isR = true) (hdis : ∀ i ∈ isR, i ∉ isC)
    (kk : ∀ (u : S) (H1 : Heap) (locs1 : List Loc), post u → va_P D vwCl (wr ++ w1 u) H1 → va_D A0 (wr ++ w1 u) → va_S A0 H0 H1 locs1 → W p l e R s m args below meth c H1 locs1 (cells + mc) (slots + ms) Q (F0 m (pc + 3) ls rest)) : W p l e R s m args below meth c H locs cells slots Q (F0 m pc ls st0) := by
  have hF := va_free hD hS hA isC hC
  refine va_callv hr hS (fun q _ h => hF q h) hF (fun u t H1 locs1 ht _ hw hB _ hk hS1 => ?_)
  obtain ⟨hP1, hD1⟩ := hB
  rw [ht] at hP1
  obtain ⟨g1, g2⟩ := va_join hP hD isC isR hC hR hn hdis hk hF hP1 hD1
  exact kk u H1 locs1 hw g1 g2 hS1
theorem sx_asi {x y : Int32} (h : x = y) (k : W p l e R s m args below meth c H locs cells slots Q (F0 m pc ls (.int y :: rest))) : W p l e R s m args below meth c H locs cells slots Q (F0 m pc ls (.int x :: rest)) := h ▸ k
theorem sx_asl {x y : Int64} (h : x = y) (k : W p l e R s m args below meth c H locs cells slots Q (F0 m pc ls (.long y :: rest))) : W p l e R s m args below meth c H locs cells slots Q (F0 m pc ls (.long x :: rest)) := h ▸ k
theorem sx_asv {x y : Value} (h : x = y) (k : W p l e R s m args below meth c H locs cells slots Q (F0 m pc ls (y :: rest))) : W p l e R s m args below meth c H locs cells slots Q (F0 m pc ls (x :: rest)) := h ▸ k
/-- a loop that changes no cell: x the loop's variables, J what holds of them at its head, lv the locals, μ what falls -/
theorem sx_loop {σ : Type} {nL : Nat} (J : σ → Prop) (lv : σ → List (Nat × Value)) (μ : σ → Nat) (x0 : σ) (h0 : J x0) (hl : lv_has ls nL (lv x0))
    (step : ∀ x : σ, J x → (∀ y : σ, J y → μ y < μ x → ∀ ls : Array Slot, lv_has ls nL (lv y) → W p l e R s m args below meth c H locs cells slots Q (F0 m pc ls rest)) → ∀ ls : Array Slot, lv_has ls nL (lv x) → W p l e R s m args below meth c H locs cells slots Q (F0 m pc ls rest)) : W p l e R s m args below meth c H locs cells slots Q (F0 m pc ls rest) := by
  have key : ∀ (n : Nat) (x : σ), μ x < n → J x → ∀ ls : Array Slot, lv_has ls nL (lv x) → W p l e R s m args below meth c H locs cells slots Q (F0 m pc ls rest) := by
    intro n
    induction n with
    | zero => intro x h; exact absurd h (Nat.not_lt_zero _)
    | succ n ih => exact fun x h hJ => step x hJ (fun y hy hm => ih y (by omega) hy)
  exact key (μ x0 + 1) x0 (Nat.lt_succ_self _) h0 ls hl
/-- a loop that changes cells -/
theorem sx_loopW {σ : Type} {nL : Nat} {A : Nat → Prop} (J : σ → Prop) (lv : σ → List (Nat × Value)) (wf : σ → va_W) (μ : σ → Nat) (x0 : σ) (h0 : J x0) (hl : lv_has ls nL (lv x0)) (hP : va_P D vwCl (wf x0) H) (hD : va_D A (wf x0)) (hS : va_S A H0 H locs)
    (step : ∀ x : σ, J x → (∀ y : σ, J y → μ y < μ x → ∀ (ls : Array Slot) (H : Heap) (locs : List Loc), lv_has ls nL (lv y) → va_P D vwCl (wf y) H → va_D A (wf y) → va_S A H0 H locs → W p l e R s m args below meth c H locs cells slots Q (F0 m pc ls rest)) → ∀ (ls : Array Slot) (H : Heap) (locs : List Loc), lv_has ls nL (lv x) → va_P D vwCl (wf x) H → va_D A (wf x) → va_S A H0 H locs → W p l e R s m args below meth c H locs cells slots Q (F0 m pc ls rest)) : W p l e R s m args below meth c H locs cells slots Q (F0 m pc ls rest) := by
  have key : ∀ (n : Nat) (x : σ), μ x < n → J x → ∀ (ls : Array Slot) (H : Heap) (locs : List Loc), lv_has ls nL (lv x) → va_P D vwCl (wf x) H → va_D A (wf x) → va_S A H0 H locs → W p l e R s m args below meth c H locs cells slots Q (F0 m pc ls rest) := by
    intro n
    induction n with
    | zero => intro x h; exact absurd h (Nat.not_lt_zero _)
    | succ n ih => exact fun x h hJ => step x hJ (fun y hy hm => ih y (by omega) hy)
  exact key (μ x0 + 1) x0 (Nat.lt_succ_self _) h0 ls H locs hl hP hD hS
end SXC
end
section
/-! The worlds: cells of a PathTree, a Store, an Action, the SandboxTree (with one Action), the reference. Written by wip/whole/gen/tmpl.py. -/
def wP (cA : Nat → ClassId) (o : Nat) (a1 : Nat) (a2 : Nat) (a3 : Nat) (a4 : Nat) (cnt : Int32) (par : Nat → Int32) (ltr : Nat → Int32) (ab : Nat → Int64) (un : Nat → Int64) : va_W := [(o, .inr (1, [.ref a1, .ref a2, .ref a3, .ref a4, .int cnt])), (a1, .inl (cA 0, 60, .inl par)), (a2, .inl (cA 2, 60, .inl ltr)), (a3, .inl (cA 3, 60, .inr (.inl ab))), (a4, .inl (cA 3, 60, .inr (.inl un)))]
def wS (cA : Nat → ClassId) (o : Nat) (a1 : Nat) (v : Nat → Int32) (f : Int64) (l : Int64) : va_W := [(o, .inr (2, [.ref a1, .long f, .long l])), (a1, .inl (cA 0, 60, .inl v))]
def wSS (cA : Nat → ClassId) (o : Nat) (a1 : Nat) (o2 : Nat) (a2 : Nat) (v : Nat → Int32) (f : Int64) (l : Int64) (v2 : Nat → Int32) (f2 : Int64) (l2 : Int64) : va_W := [(o, .inr (2, [.ref a1, .long f, .long l])), (a1, .inl (cA 0, 60, .inl v)), (o2, .inr (2, [.ref a2, .long f2, .long l2])), (a2, .inl (cA 0, 60, .inl v2))]
def wA (cA : Nat → ClassId) (g0 : Nat) (g1 : Nat) (g2 : Nat) (g3 : Nat) (g4 : Nat) (g5 : Nat) (dp : Nat → Int32) (out : Nat → Int32) (dc : Int32) (th : Int32) (hw : Int32) (br : Int32) (ops : Int32) (rf : Int32) (tp : Nat → Int32) (tc : Int32) (ts : Int64) (wv : Nat → Int32) (wf : Int64) (wl : Int64) : va_W := [(g0, .inr (0, [.ref g1, .ref g2, .int dc, .ref g3, .int th, .int hw, .int br, .int ops, .int rf, .ref g5, .int tc, .long ts])), (g1, .inl (cA 0, 12, .inl dp)), (g2, .inl (cA 1, 12, .inl out)), (g3, .inr (2, [.ref g4, .long wf, .long wl])), (g4, .inl (cA 0, 60, .inl wv)), (g5, .inl (cA 0, 60, .inl tp))]
def wX (cA : Nat → ClassId) (h : Nat → Nat) (lim : Int32) (ac : Int32) (sn : Int32) (cnt : Int32) (par : Nat → Int32) (ltr : Nat → Int32) (ab : Nat → Int64) (un : Nat → Int64) (sv : Nat → Int32) (sf : Int64) (sl : Int64) (acts : Nat → Option Nat) : va_W := [(h 0, .inr (3, [.int lim, .ref (h 1), .ref (h 6), .ref (h 8), .int ac, .int sn])), (h 1, .inr (1, [.ref (h 2), .ref (h 3), .ref (h 4), .ref (h 5), .int cnt])), (h 2, .inl (cA 0, 60, .inl par)), (h 3, .inl (cA 2, 60, .inl ltr)), (h 4, .inl (cA 3, 60, .inr (.inl ab))), (h 5, .inl (cA 3, 60, .inr (.inl un))), (h 6, .inr (2, [.ref (h 7), .long sf, .long sl])), (h 7, .inl (cA 0, 60, .inl sv)), (h 8, .inl (cA 4, 10, .inr (.inr (.inr (.inr acts)))))]
def wXA (cA : Nat → ClassId) (h : Nat → Nat) (g : Nat → Nat) (lim : Int32) (ac : Int32) (sn : Int32) (cnt : Int32) (par : Nat → Int32) (ltr : Nat → Int32) (ab : Nat → Int64) (un : Nat → Int64) (sv : Nat → Int32) (sf : Int64) (sl : Int64) (acts : Nat → Option Nat) (dp : Nat → Int32) (out : Nat → Int32) (dc : Int32) (th : Int32) (hw : Int32) (br : Int32) (ops : Int32) (rf : Int32) (tp : Nat → Int32) (tc : Int32) (ts : Int64) (wv : Nat → Int32) (wf : Int64) (wl : Int64) : va_W := [(h 0, .inr (3, [.int lim, .ref (h 1), .ref (h 6), .ref (h 8), .int ac, .int sn])), (h 1, .inr (1, [.ref (h 2), .ref (h 3), .ref (h 4), .ref (h 5), .int cnt])), (h 2, .inl (cA 0, 60, .inl par)), (h 3, .inl (cA 2, 60, .inl ltr)), (h 4, .inl (cA 3, 60, .inr (.inl ab))), (h 5, .inl (cA 3, 60, .inr (.inl un))), (h 6, .inr (2, [.ref (h 7), .long sf, .long sl])), (h 7, .inl (cA 0, 60, .inl sv)), (h 8, .inl (cA 4, 10, .inr (.inr (.inr (.inr acts))))), (g 0, .inr (0, [.ref (g 1), .ref (g 2), .int dc, .ref (g 3), .int th, .int hw, .int br, .int ops, .int rf, .ref (g 5), .int tc, .long ts])), (g 1, .inl (cA 0, 12, .inl dp)), (g 2, .inl (cA 1, 12, .inl out)), (g 3, .inr (2, [.ref (g 4), .long wf, .long wl])), (g 4, .inl (cA 0, 60, .inl wv)), (g 5, .inl (cA 0, 60, .inl tp))]
def wM (cA : Nat → ClassId) (h : Nat → Nat) (most : Int32) (code : Int32) (paths : Int32) (actions : Int32) (isStrict : Int32) (parent : Nat → Int32) (letter : Nat → Int32) (source : Nat → Int32) (come : Nat → Int32) (declared : Nat → Int32) (declaredPath : Nat → Int32) (operations : Nat → Int32) (refusals : Nat → Int32) (triedMany : Nat → Int32) (tried : Nat → Int32) (world : Nat → Int32) (isOutput : Nat → Int32) (isThere : Nat → Int32) (isBroken : Nat → Int32) (wasThere : Nat → Int32) (marked : Nat → Int32) : va_W := [(h 0, .inr (4, [.int most, .int code, .int paths, .int actions, .int isStrict, .ref (h 1), .ref (h 2), .ref (h 3), .ref (h 4), .ref (h 5), .ref (h 6), .ref (h 7), .ref (h 8), .ref (h 9), .ref (h 10), .ref (h 11), .ref (h 12), .ref (h 13), .ref (h 14), .ref (h 15), .ref (h 16)])), (h 1, .inl (cA 0, 60, .inl parent)), (h 2, .inl (cA 0, 60, .inl letter)), (h 3, .inl (cA 0, 60, .inl source)), (h 4, .inl (cA 0, 60, .inl come)), (h 5, .inl (cA 0, 10, .inl declared)), (h 6, .inl (cA 0, 120, .inl declaredPath)), (h 7, .inl (cA 0, 10, .inl operations)), (h 8, .inl (cA 0, 10, .inl refusals)), (h 9, .inl (cA 0, 10, .inl triedMany)), (h 10, .inl (cA 0, 600, .inl tried)), (h 11, .inl (cA 0, 600, .inl world)), (h 12, .inl (cA 1, 120, .inl isOutput)), (h 13, .inl (cA 1, 10, .inl isThere)), (h 14, .inl (cA 1, 10, .inl isBroken)), (h 15, .inl (cA 1, 10, .inl wasThere)), (h 16, .inl (cA 1, 60, .inl marked))]
theorem sx_P0 {D : va_G} {cl : List vw_C} {H : Heap} : va_P D cl [] H := fun k q h => by simp at h
theorem sx_n0 {n : Nat} (hn : n < 2 ^ 31) (h : nI n = 0) : n = 0 := (nI_eq hn (by decide)).mp (h.trans nI_0.symm)
theorem sx_nle {n : Nat} (hn : n < 2 ^ 31) (h : nI n ≤ 0) : n = 0 := by
  rw [← nI_0] at h
  have := (nI_leI hn (by decide)).mp h
  omega
theorem sx_pgt {n : Nat} (hn : n < 2 ^ 31) (h : 0 < nI n) : 0 < n := by
  rw [← nI_0] at h
  exact (nI_ltI (by decide) hn).mp h
theorem sx_ngt {n : Nat} (hn : n < 2 ^ 31) (h : ¬ 0 < nI n) : n = 0 := by
  rw [← nI_0] at h
  have := Nat.not_lt.mp (fun z => h ((nI_ltI (by decide) hn).mpr z))
  omega
theorem sx_nne {n : Nat} (_ : n < 2 ^ 31) (h : ¬ nI n = 0) : 0 < n := by
  rcases Nat.eq_zero_or_pos n with z | z
  · subst z; exact absurd nI_0 h
  · exact z
theorem sx_ple {n : Nat} (hn : n < 2 ^ 31) (h : ¬ nI n ≤ 0) : 0 < n := by
  rw [← nI_0] at h
  have := Nat.not_le.mp (fun z => h ((nI_leI hn (by decide)).mpr z))
  exact this
theorem sx_has_f1 {n : Nat} {p : Int32} (h : p < 0) : sx_has n p = false := by simp [sx_has, h]
theorem sx_has_f2 {n : Nat} {p : Int32} (h : nI n ≤ p) : sx_has n p = false := by
  have : ¬ p < nI n := Int32.not_lt.mpr h
  simp [sx_has, this]
theorem sx_has_tt {n : Nat} {p : Int32} (h1 : ¬ p < 0) (h : ¬ nI n ≤ p) : sx_has n p = true := by
  have : p < nI n := Int32.not_le.mp h
  simp [sx_has, this, h1]
theorem sx_has_rg {n : Nat} {p : Int32} (hn : n < 2 ^ 31) (h : sx_has n p = false) : ¬ ∃ j, j < n ∧ p = nI j := fun ⟨j, a, b⟩ => by
  rw [b, sx_has_nI hn a] at h; cases h
theorem sx_b1 {b : Bool} (h : b = true) : nI 1 = sx_bI b := by rw [h]; rfl
theorem sx_b0 {b : Bool} (h : b = false) : nI 0 = sx_bI b := by rw [h]; rfl
theorem sx_all_s {P : Nat → Prop} {i : Nat} (h : ∀ k, 0 < k → k < i → P k) (hi : P i) : ∀ k, 0 < k → k < i + 1 → P k := fun k a b => by
  by_cases e : k = i
  · subst e; exact hi
  · exact h k a (by omega)
theorem sx_any_s {f : Nat → Bool} {i : Nat} (h : sx_any f i = false) (hi : f i = false) : sx_any f (i + 1) = false := by simp only [sx_any, h, hi, Bool.or_self]
theorem sx_ch_none {n : Nat} {α : sx_A} {p c : Int32} (hn : n < 2 ^ 31) (h : ∀ k, 0 < k → k < n → ¬ (α 1 k = p ∧ α 2 k = c)) : sx_ch α p c n = -1 := by
  rcases sx_ch_ok (α := α) (p := p) (c := c) n hn with ⟨e, _⟩ | ⟨k, a, b, c1, d, _⟩
  · exact e
  · exact absurd ⟨c1, d⟩ (h k a b)
theorem sx_ch_some {n k : Nat} {α : sx_A} {p c : Int32} (hn : n < 2 ^ 31) (hD : sx_DI n α) (h0 : 0 < k) (hk : k < n) (e1 : α 1 k = p) (e2 : α 2 k = c) : sx_ch α p c n = nI k := by
  subst e1; subst e2; exact sx_ch_at hn hD h0 hk
theorem sx_isL_t1 {c : Int32} (h1 : ¬ c < nI 97) (h2 : c ≤ nI 122) : sx_isL c = true := by
  have a : 97 ≤ c := Int32.not_lt.mp h1
  have b : c ≤ 122 := h2
  simp [sx_isL, a, b]
theorem sx_isL_t2 {c : Int32} (h1 : ¬ c < nI 65) (h2 : ¬ nI 90 < c) : sx_isL c = true := by
  have a : 65 ≤ c := Int32.not_lt.mp h1
  have b : c ≤ 90 := Int32.not_lt.mp h2
  simp [sx_isL, a, b]
theorem sx_isL_f {c : Int32} (h1 : c < nI 97 ∨ ¬ c ≤ nI 122) (h2 : c < nI 65 ∨ nI 90 < c) : sx_isL c = false := by
  have a : (decide (97 ≤ c) && decide (c ≤ 122)) = false := by
    rcases h1 with h | h
    · rw [decide_eq_false (show ¬ 97 ≤ c from Int32.not_le.mpr h)]; rfl
    · rw [decide_eq_false (show ¬ c ≤ 122 from h), Bool.and_false]
  have b : (decide (65 ≤ c) && decide (c ≤ 90)) = false := by
    rcases h2 with h | h
    · rw [decide_eq_false (show ¬ 65 ≤ c from Int32.not_le.mpr h)]; rfl
    · rw [decide_eq_false (show ¬ c ≤ 90 from Int32.not_le.mpr h), Bool.and_false]
  unfold sx_isL
  rw [a, b]; rfl
theorem sx_holdsN {w : Int64} {j : Nat} (hj : j < 64) (h : ¬ w &&& sx_on j = 0) : sx_bt w j = true := by
  cases e : sx_bt w j with
  | true => rfl
  | false => exact absurd ((sx_holds hj).mpr e) h
end
section
/-! Small rows that the walks use. -/
theorem sx_ch_pos {n : Nat} {α : sx_A} {p c : Int32} (hn : n < 2 ^ 31) (h : ¬ sx_ch α p c n = -1) : ∃ k, 0 < k ∧ k < n ∧ sx_ch α p c n = nI k := by
  rcases sx_ch_ok (α := α) (p := p) (c := c) n hn with ⟨e, _⟩ | ⟨k, a, b, _, _, f⟩
  · exact absurd e h
  · exact ⟨k, a, b, f⟩
theorem sx_above_t {n i : Nat} {par : Nat → Int32} {ab un : Nat → Int64} {w all : Int64} (h : sx_RP n par ab un) (hi : i < n) (hw : sx_bt w i = true) (hJ : ∀ q, q < 64 → sx_bt all q = sx_any (fun k => sx_bt w k && sx_U par k q) i) : ∀ q, q < 64 → sx_bt (all ||| ab i) q = sx_any (fun k => sx_bt w k && sx_U par k q) (i + 1) := fun q hq => by
  rw [sx_bt_or, hJ q hq, h.1 i hi q hq]
  simp only [sx_any, hw, Bool.true_and]
theorem sx_above_f {i : Nat} {par : Nat → Int32} {w all : Int64} (hw : sx_bt w i = false) (hJ : ∀ q, q < 64 → sx_bt all q = sx_any (fun k => sx_bt w k && sx_U par k q) i) : ∀ q, q < 64 → sx_bt all q = sx_any (fun k => sx_bt w k && sx_U par k q) (i + 1) := fun q hq => by
  rw [hJ q hq]
  simp only [sx_any, hw, Bool.false_and, Bool.or_false]
def sx_clF (n : Nat) (α : sx_A) (w : Int64) : Nat → Bool := fun p => Nat.blt 0 p && (sx_bt w p && (!decide (sx_ch α (α 1 p) (sx_tw (α 2 p)) n = -1) && sx_bt w (sx_ch α (α 1 p) (sx_tw (α 2 p)) n).toNatClampNeg))
theorem sx_clF_t {n i k : Nat} {α : sx_A} {w : Int64} (hn : n < 2 ^ 31) (hi : 0 < i) (h1 : sx_bt w i = true) (hk : k < n) (ek : sx_ch α (α 1 i) (sx_tw (α 2 i)) n = nI k) (h2 : sx_bt w k = true) : sx_clF n α w i = true := by
  unfold sx_clF
  rw [ek, nI_clamp (by omega), h1, h2, sx_blt, decide_eq_true hi, decide_eq_false (sx_nI_m1 (by omega))]
  rfl
theorem sx_clF_f1 {n i : Nat} {α : sx_A} {w : Int64} (h : sx_bt w i = false) : sx_clF n α w i = false := by unfold sx_clF; rw [h]; simp
theorem sx_clF_f2 {n i : Nat} {α : sx_A} {w : Int64} (h : sx_ch α (α 1 i) (sx_tw (α 2 i)) n = -1) : sx_clF n α w i = false := by unfold sx_clF; rw [h]; simp
theorem sx_clF_f3 {n i k : Nat} {α : sx_A} {w : Int64} (hn : n < 2 ^ 31) (hk : k < n) (ek : sx_ch α (α 1 i) (sx_tw (α 2 i)) n = nI k) (h : sx_bt w k = false) : sx_clF n α w i = false := by
  unfold sx_clF
  rw [ek, nI_clamp (by omega), h]; simp
def sx_lsF (n : Nat) (α : sx_A) (un : Nat → Int64) (pp : Int32) (w : Int64) (c : Nat) : Nat → Bool := fun k => Nat.blt 0 k && ((decide (α 1 k = pp) && decide (α 2 k = nI c)) && !decide (un k &&& w = 0))
theorem sx_ls_no {n x : Nat} {α : sx_A} {un : Nat → Int64} {pp : Int32} {w codes : Int64} (hx : ¬ α 1 x = pp ∨ un x &&& w = 0) (hJ : ∀ b, b < 64 → sx_bt codes b = sx_any (sx_lsF n α un pp w (65 + b)) x) : ∀ b, b < 64 → sx_bt codes b = sx_any (sx_lsF n α un pp w (65 + b)) (x + 1) := fun b hb => by
  rw [hJ b hb]
  simp only [sx_any]
  have : sx_lsF n α un pp w (65 + b) x = false := by
    unfold sx_lsF
    rcases hx with h | h <;> simp [h]
  rw [this, Bool.or_false]
theorem sx_ls_yes {n x c : Nat} {α : sx_A} {un : Nat → Int64} {pp : Int32} {w codes : Int64} (h0 : 0 < x) (h1 : α 1 x = pp) (hu : ¬ un x &&& w = 0) (hc : 65 ≤ c) (hc2 : c < 123) (ec : α 2 x = nI c) (hJ : ∀ b, b < 64 → sx_bt codes b = sx_any (sx_lsF n α un pp w (65 + b)) x) : ∀ b, b < 64 → sx_bt (codes ||| sx_on (c - 65)) b = sx_any (sx_lsF n α un pp w (65 + b)) (x + 1) := fun b hb => by
  rw [sx_bt_or, hJ b hb, sx_bt_on hb (by omega)]
  simp only [sx_any]
  congr 1
  unfold sx_lsF
  rw [sx_blt, decide_eq_true h0, decide_eq_true h1, decide_eq_false hu, ec]
  simp only [Bool.true_and, Bool.not_false, Bool.and_true]
  exact decide_eq_decide.mpr ⟨fun e => by rw [e]; congr 1; omega, fun e => by have := (nI_eq (by omega) (by omega)).mp e; omega⟩
theorem sx_pick_step {q : Nat → Bool} {d : Nat} {i : Int32} (h : d < 58) : sx_pick q (58 - d) (65 + d) i = bif q (65 + d) then (if i = 0 then nI (65 + d) else sx_pick q (58 - (d + 1)) (65 + (d + 1)) (i - 1)) else sx_pick q (58 - (d + 1)) (65 + (d + 1)) i := by
  rw [show 58 - d = (58 - (d + 1)) + 1 by omega]
  rfl
theorem sx_sub1 (i : Int32) (b : Nat) : i - nI b - 1 = i - nI (b + 1) := by
  rw [← nI_1]
  apply Int32.toBitVec_inj.mp
  simp only [Int32.toBitVec_sub, Int32.toBitVec_add]
  bv_omega
theorem sx_sub_0 {i x : Int32} : i - x = 0 ↔ x = i := by
  constructor
  · intro h
    have := congrArg Int32.toBitVec h
    rw [Int32.toBitVec_sub] at this
    apply Int32.toBitVec_inj.mp
    have h0 : (0 : Int32).toBitVec = 0#32 := by decide
    rw [h0] at this
    bv_omega
  · intro h
    subst h
    apply Int32.toBitVec_inj.mp
    rw [Int32.toBitVec_sub]
    have h0 : (0 : Int32).toBitVec = 0#32 := by decide
    rw [h0]
    bv_omega
theorem sx_sub_z (i : Int32) : i - nI 0 = i := by
  apply Int32.toBitVec_inj.mp
  rw [Int32.toBitVec_sub]
  have h0 : (nI 0).toBitVec = 0#32 := by decide
  rw [h0]
  bv_omega
theorem sx_lR_no {v : Nat → Int32} {f l : Int64} {k : Nat} {x : Int32} (h : sx_has 60 x = false) : sx_lR v f l k x = 0 := by
  cases k with
  | zero => rfl
  | succ k => simp only [sx_lR, h, cond_false]
theorem sx_lR_file {v : Nat → Int32} {f l : Int64} {k j : Nat} (hj : j < 60) (h : sx_bt f j = true) : sx_lR v f l (k + 1) (nI j) = v j := by
  simp only [sx_lR]
  rw [sx_has_nI (by decide) hj, nI_clamp (by omega), h]
  rfl
theorem sx_lR_none {v : Nat → Int32} {f l : Int64} {k j : Nat} (hj : j < 60) (h : sx_bt f j = false) (h2 : sx_bt l j = false) : sx_lR v f l k (nI j) = 0 := by
  cases k with
  | zero => rfl
  | succ k =>
    simp only [sx_lR]
    rw [sx_has_nI (by decide) hj, nI_clamp (by omega), h, h2]
    rfl
theorem sx_lR_link {v : Nat → Int32} {f l : Int64} {k j : Nat} (hj : j < 60) (h : sx_bt f j = false) (h2 : sx_bt l j = true) : sx_lR v f l (k + 1) (nI j) = sx_lR v f l k (v j) := by
  simp only [sx_lR]
  rw [sx_has_nI (by decide) hj, nI_clamp (by omega), h, h2]
  rfl
end
section
/-! What the class's words say, in the words of the specification. -/
def sx_DO (α : sx_A) (a : Nat) (dp out : Nat → Int32) : Prop := ∀ k, k < 12 → dp k = α 5 (12 * a + k) ∧ out k = α 11 (12 * a + k)
def sx_wd_ (α : sx_A) (a : Nat) : Nat → Int32 := fun j => α 10 (60 * a + j)
theorem sx_uD_t {n k : Nat} {α : sx_A} {a : Nat} {ab un : Nat → Int64} {all : Int64} {o : Bool} (hR : sx_RP n (α 1) ab un) (hd : sx_dp α a k < n) (ho : α 11 (12 * a + k) = sx_bI o) (hJ : ∀ j, j < 64 → sx_bt all j = (decide (j < n) && sx_any (fun k => decide (α 11 (12 * a + k) = sx_bI o) && sx_U (α 1) j (sx_dp α a k)) k)) :
    ∀ j, j < 64 → sx_bt (all ||| un (sx_dp α a k)) j = (decide (j < n) && sx_any (fun k => decide (α 11 (12 * a + k) = sx_bI o) && sx_U (α 1) j (sx_dp α a k)) (k + 1)) := fun j hj => by
  rw [sx_bt_or, hJ j hj, hR.2.1 _ hd j hj, sx_blt]
  simp only [sx_any, decide_eq_true ho, Bool.true_and]
  cases decide (j < n) <;> simp
theorem sx_uD_f {n k : Nat} {α : sx_A} {a : Nat} {all : Int64} {o : Bool} (ho : ¬ α 11 (12 * a + k) = sx_bI o) (hJ : ∀ j, j < 64 → sx_bt all j = (decide (j < n) && sx_any (fun k => decide (α 11 (12 * a + k) = sx_bI o) && sx_U (α 1) j (sx_dp α a k)) k)) :
    ∀ j, j < 64 → sx_bt all j = (decide (j < n) && sx_any (fun k => decide (α 11 (12 * a + k) = sx_bI o) && sx_U (α 1) j (sx_dp α a k)) (k + 1)) := fun j hj => by
  rw [hJ j hj]
  simp only [sx_any, decide_eq_false ho, Bool.false_and, Bool.or_false]
def sx_scr (n : Nat) (α : sx_A) (a p : Nat) : Bool := (!decide (sx_z n α = -1) && !Nat.beq p (sx_z n α).toNatClampNeg) && (sx_U (α 1) p (sx_z n α).toNatClampNeg && !sx_isD α a false p)
theorem sx_scr_0 {n : Nat} {α : sx_A} {a : Nat} (h : sx_z n α = -1) : ∀ j, j < 64 → sx_bt 0 j = (decide (j < n) && sx_scr n α a j) := fun j _ => by
  unfold sx_scr
  rw [sx_bt_0, h]; simp
theorem sx_scr_1 {n k : Nat} {α : sx_A} {a : Nat} {ab un : Nat → Int64} {x : Int64} (hR : sx_RP n (α 1) ab un) (hn : n ≤ 60) (hk : k < n) (h : sx_z n α = nI k) (hx : ∀ j, j < 64 → sx_bt x j = (decide (j < n) && sx_isD α a false j)) : ∀ j, j < 64 → sx_bt ((un k &&& (sx_on k ^^^ (-1))) &&& (x ^^^ (-1))) j = (decide (j < n) && sx_scr n α a j) := fun j hj => by
  unfold sx_scr
  rw [h, nI_clamp (by omega), decide_eq_false (sx_nI_m1 (by omega)), sx_bt_and, sx_bt_and, sx_bt_not _ hj, sx_bt_not _ hj, sx_bt_on hj (by omega), hR.2.1 k hk j hj, hx j hj, sx_blt, sx_beq]
  cases decide (j < n) <;> cases sx_U (α 1) j k <;> cases decide (j = k) <;> cases sx_isD α a false j <;> rfl
theorem sx_wr_ok {n : Nat} {α : sx_A} {a : Nat} {x y : Int64} (hx : ∀ j, j < 64 → sx_bt x j = (decide (j < n) && sx_isD α a true j)) (hy : ∀ j, j < 64 → sx_bt y j = (decide (j < n) && sx_scr n α a j)) : ∀ j, j < 64 → sx_bt (x ||| y) j = (decide (j < n) && sx_isW n α a j) := fun j hj => by
  rw [sx_bt_or, hx j hj, hy j hj, ← Bool.and_or_distrib_left]
  rfl
theorem sx_srcT {n : Nat} {s v : Nat → Int32} {f l : Int64} (hs : sx_SR n s) (h : sx_RW s v f l) : ∀ k, k < 64 → sx_bt (f ||| l) k = (decide (k < 60) && decide (0 < s k)) := fun k hk => by
  rw [sx_RW_tk h hk]
  congr 1
  by_cases c : 0 < s k
  · have : ¬ s k = 0 := fun z => by rw [z] at c; exact absurd c (by decide)
    rw [decide_eq_true c, decide_eq_false this]; rfl
  · rw [decide_eq_false c, decide_eq_true (sx_tri c (hs.1 k))]; rfl
theorem sx_hasS_iff {n o : Nat} {α : sx_A} {ab un : Nat → Int64} {v : Nat → Int32} {f l : Int64} (hR : sx_RP n (α 1) ab un) (hn : n ≤ 60) (ho : o < n) (hs : sx_SR n (α 3)) (h : sx_RW (α 3) v f l) : un o &&& (f ||| l) = 0 ↔ sx_hasS n α o = false := by
  rw [sx_und_iff hR hn ho (sx_srcT hs h) (by rw [hs.2.1]; decide)]
  unfold sx_hasS
  rw [sx_any_congr (g := fun p => Nat.blt 0 p && (decide (0 < α 3 p) && sx_U (α 1) p o)) (fun k hk => by rw [decide_eq_true (show k < 60 by omega), Bool.true_and])]
theorem sx_hu_iff {n o : Nat} {α : sx_A} {a : Nat} {ab un : Nat → Int64} {v : Nat → Int32} {f l : Int64} (hR : sx_RP n (α 1) ab un) (hn : n ≤ 60) (ho : o < n) (h0 : α 10 (60 * a + 0) = 0) (h : sx_RW (sx_wd_ α a) v f l) : un o &&& (f ||| l) = 0 ↔ sx_hu n α a o = false := by
  rw [sx_und_iff hR hn ho (fun k hk => sx_RW_tk h hk) (by show (decide (0 < 60) && !decide (α 10 (60 * a + 0) = 0)) = false; rw [h0]; decide)]
  unfold sx_hu
  rw [sx_any_congr (g := fun k => Nat.blt 0 k && (!decide (α 10 (60 * a + k) = 0) && sx_U (α 1) k o)) (fun k hk => by rw [decide_eq_true (show k < 60 by omega), Bool.true_and]; rfl)]
theorem sx_inS_iff {n p : Nat} {α : sx_A} {ab un : Nat → Int64} {v : Nat → Int32} {f l : Int64} (hR : sx_RP n (α 1) ab un) (hn : n ≤ 60) (hp : p < n) (hs : sx_SR n (α 3)) (h : sx_RW (α 3) v f l) : ((ab p ||| un p) &&& (sx_on p ^^^ (-1))) &&& (f ||| l) = 0 ↔ sx_inS n α p = false := by
  rw [sx_way_iff hR hn hp (sx_srcT hs h) (by rw [hs.2.1]; decide) (fun k a _ => by rw [hs.2.2 k a]; simp)]
  unfold sx_inS
  rw [sx_any_congr (g := fun k => (Nat.blt 0 k && !Nat.beq k p) && (decide (0 < α 3 k) && (sx_U (α 1) k p || sx_U (α 1) p k))) (fun k hk => by rw [decide_eq_true (show k < 60 by omega), Bool.true_and])]
theorem sx_inW_iff {n p : Nat} {α : sx_A} {a : Nat} {ab un : Nat → Int64} {v : Nat → Int32} {f l : Int64} (hR : sx_RP n (α 1) ab un) (hn : n ≤ 60) (hp : p < n) (h0 : ∀ j, j < 60 → (j = 0 ∨ n ≤ j) → α 10 (60 * a + j) = 0) (h : sx_RW (sx_wd_ α a) v f l) : ((ab p ||| un p) &&& (sx_on p ^^^ (-1))) &&& (f ||| l) = 0 ↔ sx_inW n α a p = false := by
  rw [sx_way_iff hR hn hp (fun k hk => sx_RW_tk h hk) (by show (decide (0 < 60) && !decide (α 10 (60 * a + 0) = 0)) = false; rw [h0 0 (by omega) (Or.inl rfl)]; decide) (fun k b _ => by
    by_cases c : k < 60
    · show (decide (k < 60) && !decide (α 10 (60 * a + k) = 0)) = false
      rw [h0 k c (Or.inr b)]; simp
    · rw [decide_eq_false c]; rfl)]
  unfold sx_inW
  rw [sx_any_congr (g := fun k => (Nat.blt 0 k && !Nat.beq k p) && (!decide (α 10 (60 * a + k) = 0) && (sx_U (α 1) k p || sx_U (α 1) p k))) (fun k hk => by rw [decide_eq_true (show k < 60 by omega), Bool.true_and]; rfl)]
theorem sx_way_bit {n p q : Nat} {par : Nat → Int32} {ab un : Nat → Int64} (hR : sx_RP n par ab un) (hn : n ≤ 60) (hp : p < n) (hq : q < n) : sx_bt (((ab p ||| un p) &&& (sx_on p ^^^ (-1))) ||| sx_on p) q = (sx_U par p q || sx_U par q p) := by
  rw [sx_bt_or, sx_bt_and, sx_bt_or, sx_bt_not _ (by omega), sx_bt_on (by omega) (by omega), hR.1 p hp q (by omega), hR.2.1 p hp q (by omega), sx_blt, decide_eq_true hq]
  by_cases e : q = p
  · subst e; rw [sx_U_self]; simp
  · rw [decide_eq_false e]; simp
theorem sx_wl60 {n na L : Nat} {α : sx_A} {a : Nat} (h : sx_INV n na L α) (ha : a < na) : ∀ j, j < 60 → sx_wd_ α a j < 0 → ∃ q, q < 60 ∧ sx_wd_ α a j = -1 - nI q := fun j hj z => by
  obtain ⟨q, q1, q2⟩ := ((sx_INV_A h ha).2.2.2.2.1 j hj).1 z
  exact ⟨q, by have := h.1.1.2; omega, q2⟩
theorem sx_lead_eq {n na L : Nat} {α : sx_A} {a p : Nat} {v : Nat → Int32} {f l : Int64} (h : sx_INV n na L α) (ha : a < na) (hp : p < 60) (hW : sx_RW (sx_wd_ α a) v f l) : sx_lR v f l 5 (nI p) = sx_lead α a p := sx_lR_ld hW (sx_wl60 h ha) 4 p hp
theorem sx_loose_eq {n na L : Nat} {α : sx_A} {a o : Nat} {ab un : Nat → Int64} {v : Nat → Int32} {f l : Int64} (h : sx_INV n na L α) (ha : a < na) (hR : sx_RP n (α 1) ab un) (ho : o < n) (hW : sx_RW (sx_wd_ α a) v f l) :
    sx_any (fun p => sx_bt (l &&& un o) p && decide (sx_lR v f l 5 (nI p) = 0)) 60 = sx_loose n α a o := by
  have hn := h.1.1.2
  have h0 : α 10 (60 * a + 0) = 0 := ((sx_INV_A h ha).2.2.2.2.1 0 (by omega)).2 (Or.inl rfl)
  have key : ∀ p, p < 60 → (sx_bt (l &&& un o) p && decide (sx_lR v f l 5 (nI p) = 0)) = ((decide (α 10 (60 * a + p) < 0) && (decide (p < n) && sx_U (α 1) p o)) && decide (sx_lead α a p = 0)) := fun p hp => by
    rw [sx_bt_and, hW.2.1 p (by omega), hR.2.1 o ho p (by omega), sx_lead_eq h ha hp hW, decide_eq_true hp, Bool.true_and, sx_blt]
    rfl
  rw [sx_any_congr key]
  have iff : ∀ a b : Bool, (a = true ↔ b = true) → a = b := fun a b => by cases a <;> cases b <;> simp
  apply iff
  unfold sx_loose
  rw [sx_any_t, sx_any_t]
  simp only [Bool.and_eq_true, sx_blt, decide_eq_true_eq]
  constructor
  · rintro ⟨p, hp, ⟨a1, a2, a3⟩, a4⟩
    refine ⟨p, a2, ?_, a1, a3, a4⟩
    rcases Nat.eq_zero_or_pos p with z | z
    · subst z; rw [h0] at a1; exact absurd a1 (by decide)
    · exact z
  · rintro ⟨p, hp, a0, a1, a3, a4⟩
    exact ⟨p, by omega, ⟨a1, hp, a3⟩, a4⟩
theorem sx_fl_step {n : Nat} {α : sx_A} {a d k pl : Nat} (h : k < d) : sx_fl n α a (d - k) k pl = bif decide (α 11 (12 * a + k) = 0) then sx_fl n α a (d - (k + 1)) (k + 1) pl else (bif sx_hu n α a (sx_dp α a k) then (bif sx_loose n α a (sx_dp α a k) then -11 - 2 * nI pl else sx_fl n α a (d - (k + 1)) (k + 1) (pl + 1)) else -10 - 2 * nI pl) := by
  rw [show d - k = (d - (k + 1)) + 1 by omega]
  rfl
theorem sx_two (pl : Nat) : nI (2 * pl) = 2 * nI pl := (pk_mul 2 pl).symm
theorem sx_nf {b : Bool} (h : ¬ b = false) : b = true := by cases b with | true => rfl | false => exact absurd rfl h
end
section
/-! Counting bits; gathering. -/
def sx_shr (x : Int64) (k : Nat) : Int64 := (x.toUInt64 >>> ((nI k).toInt64.toUInt64 &&& Int64.toUInt64 63)).toInt64
theorem sx_lN_tb (n : Nat) : (lN n).toBitVec = BitVec.ofNat 64 n := rfl
theorem sx_lN_tn {n : Nat} (h : n < 2 ^ 64) : (lN n).toBitVec.toNat = n := by rw [sx_lN_tb, BitVec.toNat_ofNat, Nat.mod_eq_of_lt h]
theorem sx_lN_of (x : Int64) : ∃ n, n < 2 ^ 64 ∧ x = lN n := ⟨x.toBitVec.toNat, x.toBitVec.isLt, sx_inj (by rw [sx_lN_tb]; simp)⟩
theorem sx_shc : ∀ k, k < 64 → ((nI k).toInt64.toUInt64 &&& Int64.toUInt64 63) = UInt64.ofNat k := by decide +kernel
theorem sx_shr_ok {n k : Nat} (hn : n < 2 ^ 64) (hk : k < 64) : sx_shr (lN n) k = lN (n / 2 ^ k) := by
  unfold sx_shr
  rw [sx_shc k hk]
  apply sx_inj
  apply BitVec.eq_of_toNat_eq
  show ((lN n).toUInt64 >>> UInt64.ofNat k).toNat = (BitVec.ofNat 64 _).toNat
  have h1 : (UInt64.ofNat k).toNat = k := by
    show (BitVec.ofNat 64 k).toNat = k
    rw [BitVec.toNat_ofNat, Nat.mod_eq_of_lt (by omega)]
  have h2 : (lN n).toUInt64.toNat = n := sx_lN_tn hn
  rw [UInt64.toNat_shiftRight, h1, h2, Nat.mod_eq_of_lt hk, Nat.shiftRight_eq_div_pow, BitVec.toNat_ofNat, Nat.mod_eq_of_lt (Nat.lt_of_le_of_lt (Nat.div_le_self _ _) hn)]
theorem sx_lN_and {a b : Nat} (ha : a < 2 ^ 64) (hb : b < 2 ^ 64) : lN a &&& lN b = lN (a &&& b) := by
  apply sx_inj
  rw [Int64.toBitVec_and, sx_lN_tb, sx_lN_tb, sx_lN_tb]
  apply BitVec.eq_of_toNat_eq
  rw [BitVec.toNat_and, BitVec.toNat_ofNat, BitVec.toNat_ofNat, BitVec.toNat_ofNat, Nat.mod_eq_of_lt ha, Nat.mod_eq_of_lt hb, Nat.mod_eq_of_lt (Nat.and_lt_two_pow _ hb)]
theorem sx_m1c : (6148914691236517205 : Int64) = lN (sx_m 85 8) := by decide +kernel
theorem sx_m2c : (3689348814741910323 : Int64) = lN (sx_m 51 8) := by decide +kernel
theorem sx_m3c : (1085102592571150095 : Int64) = lN (sx_m 15 8) := by decide +kernel
theorem sx_bitcount {w i1 i2 i3 i4 i5 i6 : Int64} (e1 : i1 = w - (sx_shr w 1 &&& 6148914691236517205)) (e2 : i2 = (i1 &&& 3689348814741910323) + (sx_shr i1 2 &&& 3689348814741910323)) (e3 : i3 = (i2 + sx_shr i2 4) &&& 1085102592571150095) (e4 : i4 = i3 + sx_shr i3 8) (e5 : i5 = i4 + sx_shr i4 16) (e6 : i6 = i5 + sx_shr i5 32) : i6.toInt32 &&& nI 127 = nI (sx_cnt (sx_bt w) 64) := by
  obtain ⟨x, hx, rfl⟩ := sx_lN_of w
  have v1 : sx_m 85 8 = 6148914691236517205 := by decide +kernel
  have v2 : sx_m 51 8 = 3689348814741910323 := by decide +kernel
  have v3 : sx_m 15 8 = 1085102592571150095 := by decide +kernel
  obtain ⟨y1, d1⟩ : ∃ y, y = sx_s1 8 x := ⟨_, rfl⟩
  obtain ⟨y2, d2⟩ : ∃ y, y = sx_s2 8 y1 := ⟨_, rfl⟩
  obtain ⟨y3, d3⟩ : ∃ y, y = sx_s3 8 y2 := ⟨_, rfl⟩
  have f1 : i1 = lN y1 := by
    have le : (x / 2) &&& sx_m 85 8 ≤ x / 2 := Nat.and_le_left
    rw [e1, sx_shr_ok hx (by decide), sx_m1c, sx_lN_and (by omega) (by omega), lN_sub (Nat.le_trans le (by omega)), d1]
    rfl
  have b1 : y1 < 2 ^ 64 := by rw [d1]; unfold sx_s1; omega
  have f2 : i2 = lN y2 := by
    rw [e2, f1, sx_m2c, sx_lN_and b1 (by omega), sx_shr_ok b1 (by decide), sx_lN_and (by omega) (by omega), lN_add, d2]
    rfl
  have b2 : y2 ≤ 7378697629483820646 := by
    rw [d2]
    unfold sx_s2
    have l1 : y1 &&& sx_m 51 8 ≤ sx_m 51 8 := Nat.and_le_right
    have l2 : (y1 / 4) &&& sx_m 51 8 ≤ sx_m 51 8 := Nat.and_le_right
    rw [v2] at l1 l2 ⊢
    omega
  have f3 : i3 = lN y3 := by
    rw [e3, f2, sx_shr_ok (by omega) (by decide), lN_add, sx_m3c, sx_lN_and (by omega) (by omega), d3]
    rfl
  have b3 : y3 ≤ 1085102592571150095 := by
    rw [d3]
    unfold sx_s3
    have l1 : (y2 + y2 / 16) &&& sx_m 15 8 ≤ sx_m 15 8 := Nat.and_le_right
    rw [v3] at l1 ⊢
    exact l1
  have f4 : i4 = lN (y3 + y3 / 256) := by rw [e4, f3, sx_shr_ok (by omega) (by decide), lN_add]
  obtain ⟨y4, d4⟩ : ∃ y, y = y3 + y3 / 256 := ⟨_, rfl⟩
  rw [← d4] at f4
  have f5 : i5 = lN (y4 + y4 / 65536) := by rw [e5, f4, sx_shr_ok (by omega) (by decide), lN_add]
  obtain ⟨y5, d5⟩ : ∃ y, y = y4 + y4 / 65536 := ⟨_, rfl⟩
  rw [← d5] at f5
  have f6 : i6 = lN (y5 + y5 / 4294967296) := by rw [e6, f5, sx_shr_ok (by omega) (by decide), lN_add]
  have hf : sx_fin y3 = y5 + y5 / 4294967296 := by unfold sx_fin; rw [← d4, ← d5]
  have hp := sx_pop x hx
  rw [← d1, ← d2, ← d3, hf] at hp
  rw [f6, lN_i, pk_and (nI (y5 + y5 / 4294967296)) 7 (by decide)]
  congr 1
  have ht : (nI (y5 + y5 / 4294967296)).toBitVec.toNat = (y5 + y5 / 4294967296) % 2 ^ 32 := by
    show (BitVec.ofNat 32 _).toNat = _
    rw [BitVec.toNat_ofNat]
  rw [ht]
  have hc : sx_cnt (sx_bt (lN x)) 64 = sx_cnt (fun j => x.testBit j) 64 := sx_cnt_congr fun k hk => by
    show (BitVec.ofNat 64 x).getLsbD k = x.testBit k
    rw [BitVec.getLsbD_ofNat]
    simp [hk]
  rw [hc, ← hp]
  omega
/-! gathering -/
theorem sx_cmI {n : Nat} {α : sx_A} {a p : Nat} : sx_cm n α a p = ((decide (0 < p) && decide (p < n)) && sx_isD α a true p) := by unfold sx_cm; rw [sx_blt, sx_blt]
theorem sx_srow_1 {n : Nat} {α : sx_A} {a : Nat} : sx_srow n α a 1 = α 3 := by
  funext p
  unfold sx_srow
  rw [sx_cmI, sx_blt]
  by_cases e : p = 0
  · subst e; simp
  · rw [decide_eq_false (show ¬ p < 1 by omega)]; rfl
theorem sx_srow_e {n m : Nat} {α : sx_A} {a : Nat} (h : n ≤ m) : sx_srow n α a m = sx_srow n α a n := by
  funext p
  unfold sx_srow
  rw [sx_cmI, sx_blt, sx_blt]
  by_cases e : p < n
  · rw [decide_eq_true e, decide_eq_true (show p < m by omega)]
  · rw [decide_eq_false e]; simp
theorem sx_srow_t {n i : Nat} {α : sx_A} {a : Nat} (h : sx_cm n α a i = true) : upd (sx_srow n α a i) i (sx_lead α a i) = sx_srow n α a (i + 1) := by
  funext p
  unfold upd sx_srow
  rw [sx_blt, sx_blt]
  by_cases e : p = i
  · subst e; simp [h]
  · rw [if_neg e]
    have : decide (p < i) = decide (p < i + 1) := decide_eq_decide.mpr (by omega)
    rw [this]
theorem sx_srow_f {n i : Nat} {α : sx_A} {a : Nat} (h : sx_cm n α a i = false) : sx_srow n α a i = sx_srow n α a (i + 1) := by
  funext p
  unfold sx_srow
  rw [sx_blt, sx_blt]
  by_cases e : p = i
  · subst e; simp [h]
  · have : decide (p < i) = decide (p < i + 1) := decide_eq_decide.mpr (by omega)
    rw [this]
theorem sx_neg_ne {c : Int32} {b pl : Nat} (hc : c.toInt = -(b : Int)) (h0 : 0 < b) (hb : b < 100) (hp : pl ≤ 12) : ¬ c - 2 * nI pl = 0 := by
  intro h
  have e : (2 * nI pl : Int32) = nI (2 * pl) := (sx_two pl).symm
  rw [e] at h
  have := congrArg Int32.toInt h
  rw [Int32.toInt_sub, hc, nI_toInt (by omega), sx_i0] at this
  simp only [Int.bmod] at this
  omega
theorem sx_fl_ok {n : Nat} {α : sx_A} {a : Nat} : ∀ (m k pl : Nat), pl + m ≤ 12 → sx_fl n α a m k pl = 0 → ∀ z, k ≤ z → z < k + m → ¬ α 11 (12 * a + z) = 0 → sx_loose n α a (sx_dp α a z) = false := by
  intro m
  induction m with
  | zero => intro k pl _ _ z h1 h2; omega
  | succ m ih =>
    intro k pl hpl h z h1 h2 h3
    simp only [sx_fl] at h
    by_cases e : α 11 (12 * a + k) = 0
    · rw [decide_eq_true e, cond_true] at h
      have : z ≠ k := fun q => by subst q; exact h3 e
      exact ih (k + 1) pl (by omega) h z (by omega) (by omega) h3
    · rw [decide_eq_false e, cond_false] at h
      cases c : sx_hu n α a (sx_dp α a k) with
      | false =>
        rw [c, cond_false] at h
        exact absurd h (sx_neg_ne (b := 10) (by decide) (by omega) (by omega) (by omega))
      | true =>
        rw [c, cond_true] at h
        cases d : sx_loose n α a (sx_dp α a k) with
        | true =>
          rw [d, cond_true] at h
          exact absurd h (sx_neg_ne (b := 11) (by decide) (by omega) (by omega) (by omega))
        | false =>
          rw [d, cond_false] at h
          by_cases q : z = k
          · subst q; exact d
          · exact ih (k + 1) (pl + 1) (by omega) h z (by omega) (by omega) h3
theorem sx_lead0 {α : sx_A} {a p : Nat} (h : α 10 (60 * a + p) = 0) : sx_lead α a p = 0 := by
  unfold sx_lead
  rw [h]
  rfl
/-- where nothing is loose, what is there leads to a file -/
theorem sx_lead_pos {n na L : Nat} {α : sx_A} {a p : Nat} (h : sx_INV n na L α) (ha : a < na) (hf : sx_fl n α a (sx_dN α a) 0 0 = 0) (hp : p < n) (hD : sx_isD α a true p = true) (hw : ¬ α 10 (60 * a + p) = 0) : 0 < sx_lead α a p := by
  have hA := sx_INV_A h ha
  obtain ⟨hd, -⟩ := sx_dN_ok hA
  have hpos : ¬ sx_lead α a p < 0 := sx_ld_ok _ _ _
  by_cases c : 0 < sx_lead α a p
  · exact c
  · have e0 := sx_tri c hpos
    exfalso
    by_cases q : α 10 (60 * a + p) < 0
    · unfold sx_isD at hD
      obtain ⟨k, hk, hk2⟩ := sx_any_t.mp hD
      rw [Bool.and_eq_true, decide_eq_true_eq] at hk2
      have hne : ¬ α 11 (12 * a + k) = 0 := by rw [hk2.1]; decide
      have hl := sx_fl_ok (sx_dN α a) 0 0 (by omega) hf k (by omega) (by omega) hne
      unfold sx_loose at hl
      rw [sx_any_f] at hl
      have := hl p hp
      have hp0 : 0 < p := by
        rcases Nat.eq_zero_or_pos p with z | z
        · subst z; exact absurd ((hA.2.2.2.2.1 0 (by omega)).2 (Or.inl rfl)) hw
        · exact z
      rw [sx_blt, decide_eq_true hp0, decide_eq_true q, hk2.2, decide_eq_true e0] at this
      cases this
    · have hgt : 0 < α 10 (60 * a + p) := by
        by_cases z : 0 < α 10 (60 * a + p)
        · exact z
        · exact absurd (sx_tri z q) hw
      unfold sx_lead at e0
      simp only [sx_ld] at e0
      rw [if_neg q, if_pos hgt] at e0
      exact hw e0
theorem sx_com_bit {n na L : Nat} {α : sx_A} {a : Nat} {rp : Int64} {v : Nat → Int32} {f l : Int64} (h : sx_INV n na L α) (ha : a < na) (hr : ∀ j, j < 64 → sx_bt rp j = (decide (j < n) && sx_isD α a true j)) (hW : sx_RW (sx_wd_ α a) v f l) : ∀ j, j < 64 → sx_bt (rp &&& (f ||| l)) j = (sx_cm n α a j && !decide (α 10 (60 * a + j) = 0)) := fun j hj => by
  have hn := h.1.1.2
  rw [sx_bt_and, hr j hj, sx_RW_tk hW hj, sx_cmI]
  show ((decide (j < n) && sx_isD α a true j) && (decide (j < 60) && !decide (α 10 (60 * a + j) = 0))) = _
  by_cases c : j < n
  · rw [decide_eq_true c, decide_eq_true (show j < 60 by omega)]
    by_cases d : 0 < j
    · rw [decide_eq_true d]; simp
    · rw [show j = 0 by omega, ((sx_INV_A h ha).2.2.2.2.1 0 (by omega)).2 (Or.inl rfl)]; simp
  · rw [decide_eq_false c]; simp
theorem sx_mk_eq {n na L : Nat} {α : sx_A} {a : Nat} {cm : Int64} (h : sx_INV n na L α) (hc : ∀ j, j < 64 → sx_bt cm j = (sx_cm n α a j && !decide (α 10 (60 * a + j) = 0))) (q : Nat) : sx_any (fun k => sx_bt cm k && sx_U (α 1) k q) n = sx_mk n α a q := by
  have hn := h.1.1.2
  unfold sx_mk
  refine sx_any_congr fun k hk => ?_
  rw [hc k (by omega), sx_cmI, decide_eq_true hk, sx_blt]
  cases decide (0 < k) <;> cases sx_isD α a true k <;> cases decide (α 10 (60 * a + k) = 0) <;> rfl
theorem sx_way_eq {n na L : Nat} {α : sx_A} {a : Nat} {ca rp : Int64} {v : Nat → Int32} {f l : Int64} (h : sx_INV n na L α) (hca : ∀ q, q < 64 → sx_bt ca q = sx_mk n α a q) (hr : ∀ j, j < 64 → sx_bt rp j = (decide (j < n) && sx_isD α a true j)) (hS : sx_RW (α 3) v f l) : ca &&& ((f ||| l) &&& (rp ^^^ (-1))) = 0 ↔ sx_way n α a = false := by
  have hn := h.1.1.2
  have hs : sx_SR n (α 3) := h.2.2.2.2.1
  unfold sx_way
  rw [sx_w0, sx_any_f]
  constructor
  · intro z k hk
    have := z k (by omega)
    rw [sx_bt_and, sx_bt_and, sx_bt_not _ (by omega), hca k (by omega), hr k (by omega), sx_srcT hs hS k (by omega), decide_eq_true hk, decide_eq_true (show k < 60 by omega)] at this
    revert this
    cases sx_mk n α a k <;> cases sx_isD α a true k <;> cases decide (0 < α 3 k) <;> simp
  · intro z k hk
    rw [sx_bt_and, sx_bt_and, sx_bt_not _ hk, hca k hk, hr k hk, sx_srcT hs hS k hk]
    by_cases c : k < n
    · have := z k c
      rw [sx_blt] at this
      by_cases d : 0 < k
      · rw [decide_eq_true d] at this
        rw [decide_eq_true c]
        revert this
        cases sx_mk n α a k <;> cases sx_isD α a true k <;> cases decide (0 < α 3 k) <;> simp
      · rw [show k = 0 by omega, hs.2.1]; simp
    · rw [hs.2.2 k (by omega)]; simp
theorem sx_cnt_com {n na L : Nat} {α : sx_A} {a : Nat} {cm : Int64} (h : sx_INV n na L α) (ha : a < na) (hf : sx_fl n α a (sx_dN α a) 0 0 = 0) (hc : ∀ j, j < 64 → sx_bt cm j = (sx_cm n α a j && !decide (α 10 (60 * a + j) = 0))) : sx_cnt (sx_bt cm) 64 = sx_cnt (fun p => sx_cm n α a p && decide (0 < sx_lead α a p)) n := by
  have hn := h.1.1.2
  rw [sx_cnt_0 (m := n) (k := 64) (by omega) (fun j a b => by rw [hc j b, sx_cmI, decide_eq_false (show ¬ j < n by omega)]; simp)]
  refine sx_cnt_congr fun k hk => ?_
  rw [hc k (by omega)]
  cases e : sx_cm n α a k with
  | false => rfl
  | true =>
    rw [sx_cmI] at e
    simp only [Bool.and_eq_true] at e
    rw [Bool.true_and, Bool.true_and]
    by_cases d : α 10 (60 * a + k) = 0
    · rw [decide_eq_true d, sx_lead0 d]; rfl
    · rw [decide_eq_false d, decide_eq_true (sx_lead_pos h ha hf hk e.2 d)]; rfl
end
section
/-! An Action's state as one thing; how it goes with the tables. Written by wip/whole/gen/tmpl2.py. -/
def wQ (cA : Nat → ClassId) (h : Nat → Nat) (lim : Int32) (ac : Int32) (sn : Int32) (acts : Nat → Option Nat) : va_W := [(h 0, .inr (3, [.int lim, .ref (h 1), .ref (h 6), .ref (h 8), .int ac, .int sn])), (h 8, .inl (cA 4, 10, .inr (.inr (.inr (.inr acts)))))]
abbrev sx_KA : Type := (Nat → Nat → Int32) × (Nat → Int64)
def sx_kA (dp : Nat → Int32) (out : Nat → Int32) (dc : Int32) (th : Int32) (hw : Int32) (br : Int32) (ops : Int32) (rf : Int32) (tp : Nat → Int32) (tc : Int32) (ts : Int64) (wv : Nat → Int32) (wf : Int64) (wl : Int64) : sx_KA := (fun i => match i with
  | 0 => dp
  | 1 => out
  | 2 => tp
  | 3 => wv
  | _ => fun j => match j with
    | 0 => dc
    | 1 => th
    | 2 => hw
    | 3 => br
    | 4 => ops
    | 5 => rf
    | _ => tc, fun i => match i with
  | 0 => ts
  | 1 => wf
  | _ => wl)
def wAk (cA : Nat → ClassId) (g : Nat → Nat) (k : sx_KA) : va_W := wA cA (g 0) (g 1) (g 2) (g 3) (g 4) (g 5) (k.1 0) (k.1 1) (k.1 4 0) (k.1 4 1) (k.1 4 2) (k.1 4 3) (k.1 4 4) (k.1 4 5) (k.1 2) (k.1 4 6) (k.2 0) (k.1 3) (k.2 1) (k.2 2)
def wXAk (cA : Nat → ClassId) (h g : Nat → Nat) (lim : Int32) (ac : Int32) (sn : Int32) (cnt : Int32) (par : Nat → Int32) (ltr : Nat → Int32) (ab : Nat → Int64) (un : Nat → Int64) (sv : Nat → Int32) (sf : Int64) (sl : Int64) (acts : Nat → Option Nat) (k : sx_KA) : va_W := wXA cA h g lim ac sn cnt par ltr ab un sv sf sl acts (k.1 0) (k.1 1) (k.1 4 0) (k.1 4 1) (k.1 4 2) (k.1 4 3) (k.1 4 4) (k.1 4 5) (k.1 2) (k.1 4 6) (k.2 0) (k.1 3) (k.2 1) (k.2 2)
def sx_fb (α : sx_A) (i a : Nat) : Bool := !decide (α i a = 0)
def sx_oN (α : sx_A) (a : Nat) : Nat := (α 6 a).toNatClampNeg
def sx_RA (α : sx_A) (a : Nat) (k : sx_KA) : Prop := sx_DO α a (k.1 0) (k.1 1) ∧ (∀ j, j < 60 → k.1 2 j = α 9 (60 * a + j)) ∧ (∀ j, j < 64 → sx_bt (k.2 0) j = sx_nt α a j) ∧ sx_RW (sx_wd_ α a) (k.1 3) (k.2 1) (k.2 2) ∧ k.1 4 0 = α 4 a ∧ k.1 4 1 = α 12 a ∧ k.1 4 2 = α 14 a ∧ k.1 4 3 = α 13 a ∧ k.1 4 4 = α 6 a ∧ k.1 4 5 = α 7 a ∧ k.1 4 6 = α 8 a
theorem sx_fb_ok {α : sx_A} {i a : Nat} (h : ∃ b, α i a = sx_bI b) : sx_bI (sx_fb α i a) = α i a := by
  obtain ⟨b, e⟩ := h
  unfold sx_fb
  rw [e]
  cases b <;> rfl
theorem sx_oN_ok {n L : Nat} {α : sx_A} {a : Nat} (h : sx_ACT n L α a) (hL : L ≤ 500) : sx_oN α a ≤ L ∧ nI (sx_oN α a) = α 6 a := by
  obtain ⟨o, o1, o2⟩ := h.2.2.1
  have : sx_oN α a = o := by unfold sx_oN; rw [o2, nI_clamp (by omega)]
  rw [this]; exact ⟨o1, o2.symm⟩
theorem sx_XA_eq {cA : Nat → ClassId} {h g : Nat → Nat} {lim : Int32} {ac : Int32} {sn : Int32} {cnt : Int32} {par : Nat → Int32} {ltr : Nat → Int32} {ab : Nat → Int64} {un : Nat → Int64} {sv : Nat → Int32} {sf : Int64} {sl : Int64} {acts : Nat → Option Nat} {n L : Nat} {α : sx_A} {a : Nat} {k : sx_KA} (hA : sx_ACT n L α a) (hL : L ≤ 500) (hR : sx_RA α a k) : wXAk cA h g lim ac sn cnt par ltr ab un sv sf sl acts k = wXA cA h g lim ac sn cnt par ltr ab un sv sf sl acts (k.1 0) (k.1 1) (nI (sx_dN α a)) (sx_bI (sx_fb α 12 a)) (sx_bI (sx_fb α 14 a)) (sx_bI (sx_fb α 13 a)) (nI (sx_oN α a)) (α 7 a) (k.1 2) (nI (sx_tN α a)) (k.2 0) (k.1 3) (k.2 1) (k.2 2) := by
  obtain ⟨-, -, -, -, e0, e1, e2, e3, e4, e5, e6⟩ := hR
  unfold wXAk
  rw [e0, e1, e2, e3, e4, e5, e6, sx_fb_ok hA.2.2.2.2.2.1, sx_fb_ok hA.2.2.2.2.2.2.1, sx_fb_ok hA.2.2.2.2.2.2.2, (sx_oN_ok hA hL).2, ← (sx_dN_ok hA).2, ← (sx_tN_ok hA).2]
theorem sx_RA_of {α : sx_A} {a : Nat} {dp : Nat → Int32} {out : Nat → Int32} {dc : Int32} {th : Int32} {hw : Int32} {br : Int32} {ops : Int32} {rf : Int32} {tp : Nat → Int32} {tc : Int32} {ts : Int64} {wv : Nat → Int32} {wf : Int64} {wl : Int64} (h0 : sx_DO α a dp out) (h1 : ∀ j, j < 60 → tp j = α 9 (60 * a + j)) (h2 : ∀ j, j < 64 → sx_bt ts j = sx_nt α a j) (h3 : sx_RW (sx_wd_ α a) wv wf wl) (e4 : dc = α 4 a) (e12 : th = α 12 a) (e14 : hw = α 14 a) (e13 : br = α 13 a) (e6 : ops = α 6 a) (e7 : rf = α 7 a) (e8 : tc = α 8 a) : sx_RA α a (sx_kA dp out dc th hw br ops rf tp tc ts wv wf wl) := ⟨h0, h1, h2, h3, e4, e12, e14, e13, e6, e7, e8⟩
theorem sx_may_no {n L : Nat} {α : sx_A} {a : Nat} {p q : Int32} (h : sx_ok n α a p q = false) : sx_mayB n L α a p q = false ∧ sx_may n L α a p q = -1 ∧ sx_mayS n L α a p q = α := by
  unfold sx_mayB sx_may sx_mayS
  rw [h]; exact ⟨rfl, rfl, rfl⟩
theorem sx_may_lim {n L : Nat} {α : sx_A} {a : Nat} {p q : Int32} (h : sx_ok n α a p q = true) (e : α 6 a = nI L) : sx_mayB n L α a p q = false ∧ sx_may n L α a p q = -9 ∧ sx_mayS n L α a p q = sx_st α 13 a 1 := by
  unfold sx_mayB sx_may sx_mayS
  rw [h, decide_eq_true e]; exact ⟨rfl, rfl, rfl⟩
theorem sx_may_go {n L : Nat} {α : sx_A} {a : Nat} {p q : Int32} (h : sx_ok n α a p q = true) (e : ¬ α 6 a = nI L) : sx_mayB n L α a p q = true ∧ sx_may n L α a p q = 0 ∧ sx_mayS n L α a p q = sx_st α 6 a (α 6 a + 1) := by
  unfold sx_mayB sx_may sx_mayS
  rw [h, decide_eq_false e]; exact ⟨rfl, rfl, rfl⟩
theorem sx_ok_th {n : Nat} {α : sx_A} {a : Nat} {p q : Int32} (h : sx_fb α 12 a = false) : sx_ok n α a p q = false := by
  unfold sx_ok; unfold sx_fb at h; rw [h]; rfl
theorem sx_ok_p {n : Nat} {α : sx_A} {a : Nat} {p q : Int32} (h : sx_has n p = false) : sx_ok n α a p q = false := by
  unfold sx_ok; rw [h]; simp
theorem sx_ok_q {n : Nat} {α : sx_A} {a : Nat} {p q : Int32} (h : sx_has n q = false) : sx_ok n α a p q = false := by
  unfold sx_ok; rw [h]; simp
theorem sx_ok_t {n : Nat} {α : sx_A} {a : Nat} {p q : Int32} (h : sx_fb α 12 a = true) (h1 : sx_has n p = true) (h2 : sx_has n q = true) : sx_ok n α a p q = true := by
  unfold sx_ok; unfold sx_fb at h; rw [h, h1, h2]; rfl
theorem sx_has0 {n : Nat} (h1 : 1 ≤ n) (hn : n ≤ 60) : sx_has n 0 = true := sx_has_nI (j := 0) (by omega) h1
end
section
/-! The calls' answers and states, outcome by outcome; how the class's Action goes with the new state. -/
theorem sx_open_no {n L : Nat} {α : sx_A} {a : Nat} {p : Int32} (h : sx_ok n α a p 0 = false) : sx_openA n L α a p = -1 ∧ sx_openS n L α a p = α := by
  obtain ⟨e1, e2, e3⟩ := sx_may_no (L := L) h
  unfold sx_openA sx_openS
  rw [e1, e2, e3]; exact ⟨rfl, rfl⟩
theorem sx_open_lim {n L : Nat} {α : sx_A} {a : Nat} {p : Int32} (h : sx_ok n α a p 0 = true) (e : α 6 a = nI L) : sx_openA n L α a p = -9 ∧ sx_openS n L α a p = sx_st α 13 a 1 := by
  obtain ⟨e1, e2, e3⟩ := sx_may_lim h e
  unfold sx_openA sx_openS
  rw [e1, e2, e3]; exact ⟨rfl, rfl⟩
theorem sx_open_old {n L j : Nat} {α : sx_A} {a : Nat} (hj : j < 2 ^ 31) (h : sx_ok n α a (nI j) 0 = true) (e : ¬ α 6 a = nI L) (hk : ¬ sx_lead α a j = 0 ∨ sx_nt α a j = true) : sx_openA n L α a (nI j) = sx_lead α a j ∧ sx_openS n L α a (nI j) = sx_st α 6 a (α 6 a + 1) := by
  obtain ⟨e1, e2, e3⟩ := sx_may_go h e
  have hb : (decide (0 < sx_lead α a j) || sx_nt α a j) = true := by
    rcases hk with q | q
    · have : 0 < sx_lead α a j := by
        by_cases c : 0 < sx_lead α a j
        · exact c
        · exact absurd (sx_tri c (sx_ld_ok _ _ _)) q
      rw [decide_eq_true this]; rfl
    · rw [q]; simp
  unfold sx_openA sx_openS
  rw [e1, e3, nI_clamp hj, hb]; exact ⟨rfl, rfl⟩
theorem sx_open_new {n L j : Nat} {α : sx_A} {a : Nat} (hj : j < 2 ^ 31) (h : sx_ok n α a (nI j) 0 = true) (e : ¬ α 6 a = nI L) (hk : sx_lead α a j = 0) (hq : sx_nt α a j = false) : sx_openA n L α a (nI j) = sx_lead α a j ∧ sx_openS n L α a (nI j) = sx_st (sx_st (sx_st α 6 a (α 6 a + 1)) 9 (60 * a + sx_tN α a) (nI j)) 8 a (α 8 a + 1) := by
  obtain ⟨e1, e2, e3⟩ := sx_may_go h e
  have hb : (decide (0 < sx_lead α a j) || sx_nt α a j) = false := by rw [hk, hq]; decide
  unfold sx_openA sx_openS
  rw [e1, nI_clamp hj, hb]; exact ⟨rfl, rfl⟩
theorem sx_do_no {n L : Nat} {sb ok : Bool} {α : sx_A} {a : Nat} {p q v : Int32} (h : sx_ok n α a p q = false) : sx_doA n L α a p q ok = -1 ∧ sx_do n L sb α a p q ok v = α := by
  obtain ⟨e1, e2, e3⟩ := sx_may_no (L := L) h
  unfold sx_doA sx_do
  rw [e1, e2, e3]; exact ⟨rfl, rfl⟩
theorem sx_do_lim {n L : Nat} {sb ok : Bool} {α : sx_A} {a : Nat} {p q v : Int32} (h : sx_ok n α a p q = true) (e : α 6 a = nI L) : sx_doA n L α a p q ok = -9 ∧ sx_do n L sb α a p q ok v = sx_st α 13 a 1 := by
  obtain ⟨e1, e2, e3⟩ := sx_may_lim h e
  unfold sx_doA sx_do
  rw [e1, e2, e3]; exact ⟨rfl, rfl⟩
theorem sx_do_ref {n L : Nat} {sb ok : Bool} {α : sx_A} {a : Nat} {p q v : Int32} (h : sx_ok n α a p q = true) (e : ¬ α 6 a = nI L) (hk : ok = false) : sx_doA n L α a p q ok = nI 0 ∧ sx_do n L sb α a p q ok v = sx_ref sb (sx_st α 6 a (α 6 a + 1)) a := by
  obtain ⟨e1, e2, e3⟩ := sx_may_go h e
  unfold sx_doA sx_do
  rw [e1, hk]; exact ⟨rfl, rfl⟩
theorem sx_do_yes {n L j : Nat} {sb ok : Bool} {α : sx_A} {a : Nat} {q v : Int32} (hj : j < 2 ^ 31) (h : sx_ok n α a (nI j) q = true) (e : ¬ α 6 a = nI L) (hk : ok = true) : sx_doA n L α a (nI j) q ok = nI 1 ∧ sx_do n L sb α a (nI j) q ok v = sx_st (sx_st α 6 a (α 6 a + 1)) 10 (60 * a + j) v := by
  obtain ⟨e1, e2, e3⟩ := sx_may_go h e
  unfold sx_doA sx_do
  rw [e1, hk, nI_clamp hj]; exact ⟨rfl, rfl⟩
theorem sx_list_no {n L : Nat} {α : sx_A} {a : Nat} {p i : Int32} (h : sx_ok n α a p 0 = false) : sx_listA n L α a p i = -1 ∧ sx_mayS n L α a p 0 = α := by
  obtain ⟨e1, e2, e3⟩ := sx_may_no (L := L) h
  unfold sx_listA
  rw [e1, e2, e3]; exact ⟨rfl, rfl⟩
theorem sx_list_lim {n L : Nat} {α : sx_A} {a : Nat} {p i : Int32} (h : sx_ok n α a p 0 = true) (e : α 6 a = nI L) : sx_listA n L α a p i = -9 ∧ sx_mayS n L α a p 0 = sx_st α 13 a 1 := by
  obtain ⟨e1, e2, e3⟩ := sx_may_lim h e
  unfold sx_listA
  rw [e1, e2, e3]; exact ⟨rfl, rfl⟩
theorem sx_list_go {n L : Nat} {α : sx_A} {a : Nat} {p i : Int32} (h : sx_ok n α a p 0 = true) (e : ¬ α 6 a = nI L) : sx_listA n L α a p i = sx_pick (sx_lq n α a p) 58 65 i ∧ sx_mayS n L α a p 0 = sx_st α 6 a (α 6 a + 1) := by
  obtain ⟨e1, e2, e3⟩ := sx_may_go h e
  unfold sx_listA
  rw [e1, e3]; exact ⟨rfl, rfl⟩
/-! -/
theorem sx_op1 {α : sx_A} {a o : Nat} (e6 : nI o = α 6 a) : nI (o + 1) = sx_st α 6 a (α 6 a + 1) 6 a := by rw [sx_at, ← e6, nI_1]
theorem sx_wd_st {α : sx_A} {a p : Nat} {v : Int32} : sx_wd_ (sx_st α 10 (60 * a + p) v) a = upd (sx_wd_ α a) p v := by
  funext j
  unfold sx_wd_ upd
  by_cases e : j = p
  · subst e; rw [if_pos rfl, sx_at]
  · rw [if_neg e, sx_off (by omega)]
theorem sx_ref_br {α : sx_A} {a : Nat} {sb b : Bool} (e : sx_bI b = α 13 a) (hb : b = sx_fb α 13 a) : (bif sb then 1 else sx_bI b : Int32) = sx_ref sb (sx_st α 6 a (α 6 a + 1)) a 13 a := by
  have h : sx_ref sb (sx_st α 6 a (α 6 a + 1)) a 13 a = sx_bI (!decide (α 13 a = 0) || sb) := sx_at
  rw [h]
  show _ = sx_bI (sx_fb α 13 a || sb)
  rw [← hb]
  cases sb <;> cases b <;> rfl
theorem sx_ref_rf {α : sx_A} {a : Nat} {sb : Bool} : α 7 a + 1 = sx_ref sb (sx_st α 6 a (α 6 a + 1)) a 7 a := by
  show _ = sx_st (sx_st α 6 a (α 6 a + 1)) 7 a (α 7 a + 1) 7 a
  rw [sx_at]
theorem sx_ref_op {α : sx_A} {a o : Nat} {sb : Bool} (e6 : nI o = α 6 a) : nI (o + 1) = sx_ref sb (sx_st α 6 a (α 6 a + 1)) a 6 a := sx_op1 e6
theorem sx_note_tp {α : sx_A} {a t j : Nat} {tp : Nat → Int32} {v w : Int32} (h : ∀ i, i < 60 → tp i = α 9 (60 * a + i)) : ∀ i, i < 60 → upd tp t (nI j) i = sx_st (sx_st (sx_st α 6 a v) 9 (60 * a + t) (nI j)) 8 a w 9 (60 * a + i) := fun i hi => by
  show _ = sx_st (sx_st α 6 a v) 9 (60 * a + t) (nI j) 9 (60 * a + i)
  unfold upd
  by_cases e : i = t
  · subst e; rw [if_pos rfl, sx_at]
  · rw [if_neg e, sx_off (by omega)]; exact h i hi
theorem sx_note_ts {α : sx_A} {a j : Nat} {ts : Int64} {v : Int32} (ht : sx_tN α a < 60) (e8 : nI (sx_tN α a) = α 8 a) (hj : j < 60) (h : ∀ i, i < 64 → sx_bt ts i = sx_nt α a i) : ∀ i, i < 64 → sx_bt (ts ||| sx_on j) i = sx_nt (sx_st (sx_st (sx_st α 6 a v) 9 (60 * a + sx_tN α a) (nI j)) 8 a (α 8 a + 1)) a i := fun i hi => by
  rw [sx_bt_or, h i hi, sx_bt_on hi (by omega)]
  have e1 : sx_tN (sx_st (sx_st (sx_st α 6 a v) 9 (60 * a + sx_tN α a) (nI j)) 8 a (α 8 a + 1)) a = sx_tN α a + 1 := by
    show (sx_st (sx_st (sx_st α 6 a v) 9 (60 * a + sx_tN α a) (nI j)) 8 a (α 8 a + 1) 8 a).toNatClampNeg = _
    rw [sx_at, ← e8, nI_1, nI_clamp (by omega)]
  unfold sx_nt
  rw [e1]
  simp only [sx_any]
  have e2 : ∀ k, sx_st (sx_st (sx_st α 6 a v) 9 (60 * a + sx_tN α a) (nI j)) 8 a (α 8 a + 1) 9 k = sx_st (sx_st α 6 a v) 9 (60 * a + sx_tN α a) (nI j) 9 k := fun _ => rfl
  congr 1
  · refine sx_any_congr fun k hk => ?_
    rw [e2, sx_off (by omega)]
    rfl
  · rw [e2, sx_at]
    exact decide_eq_decide.mpr ⟨fun z => by rw [z], fun z => ((nI_eq (by omega) (by omega)).mp z).symm⟩
theorem sx_dec_DO {α : sx_A} {a d : Nat} {dp out : Nat → Int32} {p w : Int32} {o : Bool} (hd : d < 12) (h : sx_DO α a dp out) : sx_DO (sx_st (sx_st (sx_st α 5 (12 * a + d) p) 11 (12 * a + d) (sx_bI o)) 4 a w) a (upd dp d p) (upd out d (sx_bI o)) := fun k hk => by
  constructor
  · show _ = sx_st α 5 (12 * a + d) p 5 (12 * a + k)
    unfold upd
    by_cases e : k = d
    · subst e; rw [if_pos rfl, sx_at]
    · rw [if_neg e, sx_off (by omega)]; exact (h k hk).1
  · show _ = sx_st (sx_st α 5 (12 * a + d) p) 11 (12 * a + d) (sx_bI o) 11 (12 * a + k)
    unfold upd
    by_cases e : k = d
    · subst e; rw [if_pos rfl, sx_at]
    · rw [if_neg e, sx_off (by omega)]; exact (h k hk).2
theorem sx_beg_W {n na L : Nat} {α : sx_A} {a : Nat} {sv wv : Nat → Int32} {sf sl x : Int64} (hI : sx_INV n na L α) (hS : sx_RW (α 3) sv sf sl) (hx : ∀ j, j < 64 → sx_bt x j = (decide (j < n) && sx_isD α a false j)) (w : Nat → Int32) (hw : ∀ j, j < 60 → w j = sx_nw n α a j) : sx_RW w (va_cpy sv wv 0 0 60) (sf &&& x) 0 := by
  have hn := hI.1.1.2
  obtain ⟨s1, s2, s3⟩ := hI.2.2.2.2.1
  have hnw : ∀ j, sx_nw n α a j = bif decide (j < n) && sx_isD α a false j then α 3 j else 0 := fun j => by unfold sx_nw; rw [sx_blt]
  refine ⟨fun j hj => ?_, fun j hj => ?_, fun j hj z => ?_, fun j hj q hq z => ?_⟩
  · rw [sx_bt_and, hS.1 j hj, hx j hj]
    by_cases c : j < 60
    · rw [hw j c, hnw, decide_eq_true c]
      cases (decide (j < n) && sx_isD α a false j) with
      | true => simp
      | false => simp
    · rw [decide_eq_false c]; rfl
  · rw [sx_bt_0]
    by_cases c : j < 60
    · rw [hw j c, decide_eq_false (sx_nw_ok hI).1, Bool.and_false]
    · rw [decide_eq_false c]; rfl
  · rw [hw j hj, hnw] at z
    rw [hw j hj, hnw, pk_cpy_in (Nat.zero_le _) (by omega)]
    cases e : (decide (j < n) && sx_isD α a false j) with
    | true =>
      rw [e] at z
      rw [cond_true, show 0 + (j - 0) = j by omega]
      exact hS.2.2.1 j hj z
    | false => rw [e] at z; exact absurd z (show ¬ (0 : Int32) < 0 by decide)
  · rw [hw j hj] at z
    have := (sx_lk (q := q) (by omega)).1
    rw [← z] at this
    exact absurd this (sx_nw_ok hI).1
theorem sx_wrow_at {n : Nat} {α : sx_A} {a j : Nat} (hj : j < 60) : sx_wrow n α a 60 (60 * a + j) = sx_nw n α a j := by
  have b1 : Nat.ble (60 * a) (60 * a + j) = true := Nat.ble_eq_true_of_le (by omega)
  have b2 : Nat.blt (60 * a + j) (60 * a + 60) = true := by simp only [Nat.blt]; exact Nat.ble_eq_true_of_le (by omega)
  simp only [sx_wrow, b1, b2, Bool.and_self, cond_true, Nat.add_sub_cancel_left]
theorem sx_beg_cnt {n na L : Nat} {α : sx_A} {a : Nat} {w v : Nat → Int32} {f l : Int64} (hI : sx_INV n na L α) (h : sx_RW w v f l) (hw : ∀ j, j < 60 → w j = sx_nw n α a j) : sx_cnt (sx_bt (f ||| l)) 64 = sx_cnt (fun p => decide (0 < sx_nw n α a p)) 60 := by
  rw [sx_cnt_0 (m := 60) (k := 64) (by omega) (fun j a b => by rw [sx_RW_tk h b, decide_eq_false (show ¬ j < 60 by omega)]; rfl)]
  refine sx_cnt_congr fun k hk => ?_
  rw [sx_RW_tk h (by omega), decide_eq_true hk, Bool.true_and, hw k hk]
  by_cases c : 0 < sx_nw n α a k
  · have : ¬ sx_nw n α a k = 0 := fun z => by rw [z] at c; exact absurd c (by decide)
    rw [decide_eq_true c, decide_eq_false this]; rfl
  · rw [decide_eq_false c, decide_eq_true (sx_tri c (sx_nw_ok hI).1)]; rfl
theorem sx_ge1 {c : Int32} (h : ¬ c < nI 1) : 0 < c := by
  rw [Int32.lt_iff_toInt_lt] at h ⊢
  rw [sx_i0]
  have : (nI 1).toInt = 1 := by decide
  omega
theorem sx_lq_eq {n na L : Nat} {α : sx_A} {a : Nat} {ab un : Nat → Int64} {v : Nat → Int32} {f l : Int64} {p : Int32} {c : Nat} (hI : sx_INV n na L α) (ha : a < na) (hR : sx_RP n (α 1) ab un) (hW : sx_RW (sx_wd_ α a) v f l) : sx_any (sx_lsF n α un p (f ||| l) c) n = sx_lq n α a p c := by
  have hn := hI.1.1.2
  have h0 : α 10 (60 * a + 0) = 0 := ((sx_INV_A hI ha).2.2.2.2.1 0 (by omega)).2 (Or.inl rfl)
  unfold sx_lq
  rw [← sx_list_q (t := sx_hu n α a) hI]
  refine sx_any_congr fun k hk => ?_
  unfold sx_lsF
  congr 2
  cases e : sx_hu n α a k with
  | false => rw [decide_eq_true ((sx_hu_iff hR hn hk h0 hW).mpr e)]; rfl
  | true => rw [decide_eq_false (fun z => by rw [(sx_hu_iff hR hn hk h0 hW).mp z] at e; cases e)]; rfl
theorem sx_fin2 {x r v : Int32} {β γ : sx_A} {a : Nat} {u : sx_KA} (h : r = v ∧ β = γ) (hv : x = v) (hP : sx_RA γ a u) : x = r ∧ sx_RA β a u := ⟨by rw [h.1]; exact hv, by rw [h.2]; exact hP⟩
theorem sx_W_op {α : sx_A} {a : Nat} {x : Int32} : sx_wd_ (sx_st α 6 a x) a = sx_wd_ α a := rfl
theorem sx_W_put {α : sx_A} {a j : Nat} {x c : Int32} {v : Nat → Int32} {f l : Int64} (h : sx_RW (sx_wd_ α a) v f l) (hj : j < 60) (hc : 0 < c) : sx_RW (sx_wd_ (sx_st (sx_st α 6 a x) 10 (60 * a + j) c) a) (upd v j c) ((f &&& (sx_on j ^^^ (-1))) ||| sx_on j) (l &&& (sx_on j ^^^ (-1))) := by
  rw [sx_wd_st, sx_W_op]; exact sx_RW_put h hj hc
theorem sx_W_link {α : sx_A} {a j q : Nat} {x : Int32} {v : Nat → Int32} {f l : Int64} (h : sx_RW (sx_wd_ α a) v f l) (hj : j < 60) (hq : q < 60) : sx_RW (sx_wd_ (sx_st (sx_st α 6 a x) 10 (60 * a + j) (-1 - nI q)) a) (upd v j (nI q)) (f &&& (sx_on j ^^^ (-1))) ((l &&& (sx_on j ^^^ (-1))) ||| sx_on j) := by
  rw [sx_wd_st, sx_W_op]; exact sx_RW_link h hj hq
theorem sx_W_away {α : sx_A} {a j : Nat} {x : Int32} {v : Nat → Int32} {f l : Int64} (h : sx_RW (sx_wd_ α a) v f l) (hj : j < 60) : sx_RW (sx_wd_ (sx_st (sx_st α 6 a x) 10 (60 * a + j) 0) a) v (f &&& (sx_on j ^^^ (-1))) (l &&& (sx_on j ^^^ (-1))) := by
  rw [sx_wd_st, sx_W_op]; exact sx_RW_away h hj
theorem sx_RA_w {α : sx_A} {a j o : Nat} {v : Int32} {dp : Nat → Int32} {out : Nat → Int32} {dc : Int32} {th : Int32} {hw : Int32} {br : Int32} {rf : Int32} {tp : Nat → Int32} {tc : Int32} {ts : Int64} {wv : Nat → Int32} {wf : Int64} {wl : Int64} (h0 : sx_DO α a dp out) (h1 : ∀ j, j < 60 → tp j = α 9 (60 * a + j)) (h2 : ∀ j, j < 64 → sx_bt ts j = sx_nt α a j) (h3 : sx_RW (sx_wd_ (sx_st (sx_st α 6 a (α 6 a + 1)) 10 (60 * a + j) v) a) wv wf wl) (e4 : dc = α 4 a) (e12 : th = α 12 a) (e14 : hw = α 14 a) (e13 : br = α 13 a) (e6 : nI o = α 6 a) (e7 : rf = α 7 a) (e8 : tc = α 8 a) : sx_RA (sx_st (sx_st α 6 a (α 6 a + 1)) 10 (60 * a + j) v) a (sx_kA dp out dc th hw br (nI (o + 1)) rf tp tc ts wv wf wl) := ⟨h0, h1, h2, h3, e4, e12, e14, e13, sx_op1 e6, e7, e8⟩
end
section
set_option maxHeartbeats 4000000 in
set_option maxRecDepth 100000 in
theorem k_only (l : Launch) (D : va_G) (cA : Nat → ClassId) (j : Nat) : Met l y_X_only w_X_only ({ frames := 0, cells := 0, slots := 0, locals := 0 }) (sx_Pr D cA [.int (nI j)] ([])) (vp_Sl (fun r => r = sx_on j)) 0 0 (fun _ => False) := by
  refine Met.ofW (cc := b_X_only) (maxL := 1) (ret := (some .long)) (by decide) rfl ?_
  intro pG eG s m args below meth cG s₁ B hml hv
  obtain ⟨rfl, hP, hK⟩ := hv
  have hx := B.exec
  have hb := B.bytes
  have hr := B.returns
  have hts0 := atoms_spec (ws := w_X_only) B.pre
  have hts : ∀ w ∈ sx_gw, w.before _ s = true := fun w h => hts0 w (List.mem_cons_of_mem _ h)
  have hown : s.vm.findClass R_X = some m.cls := findClass_of_methodNamed B.named
  have hlocks := B.notSynchronized
  have hl := lv_entry ([.int (nI j)]) (n := 1) (Nat.le_of_ble_eq_true rfl)
  rw [lg_entry_eq]
  generalize (lg_sl ([.int (nI j)]) ++ List.replicate (1 - (lg_sl ([.int (nI j)])).length) Slot.unset).toArray = ls at hl ⊢
  have hl : lv_has ls 1 [(0, .int (nI j))] := hl
  refine lv_lconst (v := 1) hx hb d_X_only_0 (by decide +kernel) ?_
  refine lv_iload_n hx hb d_X_only_1 rfl (lv_at hl 0 rfl) ?_
  refine lv_lshl (v := sx_on j) hx hb d_X_only_2 rfl ?_
  exact W.lret (v := sx_on j) hx hb hr (fun t ht hW => ⟨sx_on j, rfl, rfl, ht⟩) (fun _ h => by cases h) d_X_only_3

set_option maxHeartbeats 4000000 in
set_option maxRecDepth 100000 in
theorem k_holds (l : Launch) (D : va_G) (cA : Nat → ClassId) (w : Int64) (j : Nat) (hj : j < 64) : Met l y_X_holds w_X_holds ({ frames := 1, cells := 0, slots := 0, locals := 20 }) (sx_Pr D cA [.long w, .int (nI j)] ([])) (vp_Si (fun r => r = sx_bI (sx_bt w j))) 0 0 (fun _ => False) := by
  refine Met.ofW (cc := b_X_holds) (maxL := 3) (ret := (some .boolean)) (by decide) rfl ?_
  intro pG eG s m args below meth cG s₁ B hml hv
  obtain ⟨rfl, hP, hK⟩ := hv
  have hx := B.exec
  have hb := B.bytes
  have hr := B.returns
  have hts0 := atoms_spec (ws := w_X_holds) B.pre
  have hts : ∀ w ∈ sx_gw, w.before _ s = true := fun w h => hts0 w (List.mem_cons_of_mem _ h)
  have hown : s.vm.findClass R_X = some m.cls := findClass_of_methodNamed B.named
  have hlocks := B.notSynchronized
  have hl := lv_entry ([.long w, .int (nI j)]) (n := 3) (Nat.le_of_ble_eq_true rfl)
  rw [lg_entry_eq]
  generalize (lg_sl ([.long w, .int (nI j)]) ++ List.replicate (3 - (lg_sl ([.long w, .int (nI j)])).length) Slot.unset).toArray = ls at hl ⊢
  have hl : lv_has ls 3 [(0, .long w), (2, .int (nI j))] := hl
  refine lv_lload_n hx hb d_X_holds_0 rfl (lv_at hl 0 rfl) ?_
  refine lv_iload_n hx hb d_X_holds_1 rfl (lv_at hl 1 rfl) ?_
  refine vp_callSl (va_runS (As := [.int (nI j)]) (rest := [.long w]) ⟨hx, hb, hml, hown, hts⟩ (k_only l D cA j) (va_cwS 1 hts (sx_GS wd_111 wd_30 wd_1 wd_31) rfl rfl rfl (by decide +kernel) ⟨Nat.le_of_ble_eq_true rfl, Nat.le_of_ble_eq_true rfl⟩) (sx_preS hK (sx_P0 : va_P D vwCl [] s.heap)) rfl rfl hl.1 rfl (lv_room (Nat.le_of_ble_eq_true rfl)) d_X_holds_2 ⟨Nat.le_of_ble_eq_true rfl, Nat.le_of_ble_eq_true rfl⟩).run (fun r_2 hr_1 => ?_)
  subst hr_1
  refine lv_land hx hb d_X_holds_5 ?_
  refine lv_lconst (v := 0) hx hb d_X_holds_6 (by decide +kernel) ?_
  refine W.lcmp hx hb d_X_holds_7 ?_
  refine lv_if_eq (tgt := 15) hx hb d_X_holds_8 (by decide) (fun c_3 => ?_) (fun c_3 => ?_)
  · have c_3 : w &&& (sx_on j) = 0 := sx_cmp0.mp c_3
    refine lv_iconst (v := nI 0) hx hb d_X_holds_15 (by decide +kernel) ?_
    exact W.zret (v := nI 0) (ty := .boolean) hx hb hr (by decide +kernel) (fun t ht hW => ⟨nI 0, rfl, (by first | exact sx_b1 (sx_holdsN hj (by assumption)) | exact sx_b0 ((sx_holds hj).mp (by assumption))), ht⟩) (fun _ h => by cases h) d_X_holds_16
  · have c_3 : ¬ (w &&& (sx_on j)) = 0 := fun z => c_3 (sx_cmp0.mpr z)
    refine lv_iconst (v := nI 1) hx hb d_X_holds_11 (by decide +kernel) ?_
    refine lv_goto (tgt := 16) hx hb d_X_holds_12 (by decide) ?_
    exact W.zret (v := nI 1) (ty := .boolean) hx hb hr (by decide +kernel) (fun t ht hW => ⟨nI 1, rfl, (by first | exact sx_b1 (sx_holdsN hj (by assumption)) | exact sx_b0 ((sx_holds hj).mp (by assumption))), ht⟩) (fun _ h => by cases h) d_X_holds_16

set_option maxHeartbeats 4000000 in
set_option maxRecDepth 100000 in
theorem k_canHold (l : Launch) (D : va_G) (cA : Nat → ClassId) (p : Int32) : Met l y_S_canHold w_S_canHold ({ frames := 0, cells := 0, slots := 0, locals := 0 }) (sx_Pr D cA [.int p] ([])) (vp_Si (fun r => r = sx_bI (sx_has 60 p))) 0 0 (fun _ => False) := by
  refine Met.ofW (cc := b_S_canHold) (maxL := 1) (ret := (some .boolean)) (by decide) rfl ?_
  intro pG eG s m args below meth cG s₁ B hml hv
  obtain ⟨rfl, hP, hK⟩ := hv
  have hx := B.exec
  have hb := B.bytes
  have hr := B.returns
  have hts0 := atoms_spec (ws := w_S_canHold) B.pre
  have hts : ∀ w ∈ sx_gw, w.before _ s = true := fun w h => hts0 w (List.mem_cons_of_mem _ h)
  have hown : s.vm.findClass R_S = some m.cls := findClass_of_methodNamed B.named
  have hlocks := B.notSynchronized
  have hl := lv_entry ([.int p]) (n := 1) (Nat.le_of_ble_eq_true rfl)
  rw [lg_entry_eq]
  generalize (lg_sl ([.int p]) ++ List.replicate (1 - (lg_sl ([.int p])).length) Slot.unset).toArray = ls at hl ⊢
  have hl : lv_has ls 1 [(0, .int p)] := hl
  refine lv_iload_n hx hb d_S_canHold_0 rfl (lv_at hl 0 rfl) ?_
  refine lv_if_lt (tgt := 14) hx hb d_S_canHold_1 (by decide) (fun c_1 => ?_) (fun c_1 => ?_)
  · refine lv_iconst (v := nI 0) hx hb d_S_canHold_14 (by decide +kernel) ?_
    exact W.zret (v := nI 0) (ty := .boolean) hx hb hr (by decide +kernel) (fun t ht hW => ⟨nI 0, rfl, (by first | exact sx_b1 (sx_has_tt (by assumption) (by assumption)) | exact sx_b0 (sx_has_f1 (by assumption)) | exact sx_b0 (sx_has_f2 (by assumption))), ht⟩) (fun _ h => by cases h) d_S_canHold_15
  · refine lv_iload_n hx hb d_S_canHold_4 rfl (lv_at hl 0 rfl) ?_
    refine lv_bipush (v := nI 60) hx hb d_S_canHold_5 (by decide +kernel) ?_
    refine lv_icmp_ge (tgt := 14) hx hb d_S_canHold_7 (by decide) (fun c_2 => ?_) (fun c_2 => ?_)
    · refine lv_iconst (v := nI 0) hx hb d_S_canHold_14 (by decide +kernel) ?_
      exact W.zret (v := nI 0) (ty := .boolean) hx hb hr (by decide +kernel) (fun t ht hW => ⟨nI 0, rfl, (by first | exact sx_b1 (sx_has_tt (by assumption) (by assumption)) | exact sx_b0 (sx_has_f1 (by assumption)) | exact sx_b0 (sx_has_f2 (by assumption))), ht⟩) (fun _ h => by cases h) d_S_canHold_15
    · refine lv_iconst (v := nI 1) hx hb d_S_canHold_10 (by decide +kernel) ?_
      refine lv_goto (tgt := 15) hx hb d_S_canHold_11 (by decide) ?_
      exact W.zret (v := nI 1) (ty := .boolean) hx hb hr (by decide +kernel) (fun t ht hW => ⟨nI 1, rfl, (by first | exact sx_b1 (sx_has_tt (by assumption) (by assumption)) | exact sx_b0 (sx_has_f1 (by assumption)) | exact sx_b0 (sx_has_f2 (by assumption))), ht⟩) (fun _ h => by cases h) d_S_canHold_15

set_option maxHeartbeats 4000000 in
set_option maxRecDepth 100000 in
theorem k_has (l : Launch) (D : va_G) (cA : Nat → ClassId) (o a1 a2 a3 a4 : Nat) (n : Nat) (par ltr : Nat → Int32) (ab un : Nat → Int64) (p : Int32) : Met l y_P_has w_P_has ({ frames := 0, cells := 0, slots := 0, locals := 0 }) (sx_Pr D cA [.ref o, .int p] (wP cA o a1 a2 a3 a4 (nI n) par ltr ab un)) (vp_Si (fun r => r = sx_bI (sx_has n p))) 0 0 (fun _ => False) := by
  refine Met.ofW (cc := b_P_has) (maxL := 2) (ret := (some .boolean)) (by decide) rfl ?_
  intro pG eG s m args below meth cG s₁ B hml hv
  obtain ⟨rfl, hP, hK⟩ := hv
  have hx := B.exec
  have hb := B.bytes
  have hr := B.returns
  have hts0 := atoms_spec (ws := w_P_has) B.pre
  have hts : ∀ w ∈ sx_gw, w.before _ s = true := fun w h => hts0 w (List.mem_cons_of_mem _ h)
  have hown : s.vm.findClass R_P = some m.cls := findClass_of_methodNamed B.named
  have hlocks := B.notSynchronized
  have hl := lv_entry ([.ref o, .int p]) (n := 2) (Nat.le_of_ble_eq_true rfl)
  rw [lg_entry_eq]
  generalize (lg_sl ([.ref o, .int p]) ++ List.replicate (2 - (lg_sl ([.ref o, .int p])).length) Slot.unset).toArray = ls at hl ⊢
  have hl : lv_has ls 2 [(0, .ref o), (1, .int p)] := hl
  refine lv_iload_n hx hb d_P_has_0 rfl (lv_at hl 1 rfl) ?_
  refine lv_if_lt (tgt := 16) hx hb d_P_has_1 (by decide) (fun c_1 => ?_) (fun c_1 => ?_)
  · refine lv_iconst (v := nI 0) hx hb d_P_has_16 (by decide +kernel) ?_
    exact W.zret (v := nI 0) (ty := .boolean) hx hb hr (by decide +kernel) (fun t ht hW => ⟨nI 0, rfl, (by first | exact sx_b1 (sx_has_tt (by assumption) (by assumption)) | exact sx_b0 (sx_has_f1 (by assumption)) | exact sx_b0 (sx_has_f2 (by assumption))), ht⟩) (fun _ h => by cases h) d_P_has_17
  · refine lv_iload_n hx hb d_P_has_4 rfl (lv_at hl 1 rfl) ?_
    refine lv_aload_n hx hb d_P_has_5 rfl (lv_at hl 0 rfl) ?_
    refine va_get (D := D) (ci := 1) (v := .int (nI n)) (C := R_P) (T := T_P) (N := 5) hx hb hts iw_P hown hK.1 hP 0 rfl rfl 4 (by decide) (hts _ wd_36) (fun _ h9 => h9) rfl d_P_has_6 ?_
    refine lv_icmp_ge (tgt := 16) hx hb d_P_has_9 (by decide) (fun c_2 => ?_) (fun c_2 => ?_)
    · refine lv_iconst (v := nI 0) hx hb d_P_has_16 (by decide +kernel) ?_
      exact W.zret (v := nI 0) (ty := .boolean) hx hb hr (by decide +kernel) (fun t ht hW => ⟨nI 0, rfl, (by first | exact sx_b1 (sx_has_tt (by assumption) (by assumption)) | exact sx_b0 (sx_has_f1 (by assumption)) | exact sx_b0 (sx_has_f2 (by assumption))), ht⟩) (fun _ h => by cases h) d_P_has_17
    · refine lv_iconst (v := nI 1) hx hb d_P_has_12 (by decide +kernel) ?_
      refine lv_goto (tgt := 17) hx hb d_P_has_13 (by decide) ?_
      exact W.zret (v := nI 1) (ty := .boolean) hx hb hr (by decide +kernel) (fun t ht hW => ⟨nI 1, rfl, (by first | exact sx_b1 (sx_has_tt (by assumption) (by assumption)) | exact sx_b0 (sx_has_f1 (by assumption)) | exact sx_b0 (sx_has_f2 (by assumption))), ht⟩) (fun _ h => by cases h) d_P_has_17

set_option maxHeartbeats 4000000 in
set_option maxRecDepth 100000 in
theorem k_find (l : Launch) (D : va_G) (cA : Nat → ClassId) (o a1 a2 a3 a4 : Nat) (n : Nat) (α : sx_A) (ab un : Nat → Int64) (h1 : 1 ≤ n) (hn : n ≤ 60) (hDI : sx_DI n α) (pp cc : Int32) : Met l y_P_find w_P_find ({ frames := 0, cells := 0, slots := 0, locals := 0 }) (sx_Pr D cA [.ref o, .int pp, .int cc] (wP cA o a1 a2 a3 a4 (nI n) (α 1) (α 2) ab un)) (vp_Si (fun r => r = sx_ch α pp cc n)) 0 0 (fun _ => False) := by
  refine Met.ofW (cc := b_P_find) (maxL := 4) (ret := (some .int)) (by decide) rfl ?_
  intro pG eG s m args below meth cG s₁ B hml hv
  obtain ⟨rfl, hP, hK⟩ := hv
  have hx := B.exec
  have hb := B.bytes
  have hr := B.returns
  have hts0 := atoms_spec (ws := w_P_find) B.pre
  have hts : ∀ w ∈ sx_gw, w.before _ s = true := fun w h => hts0 w (List.mem_cons_of_mem _ h)
  have hown : s.vm.findClass R_P = some m.cls := findClass_of_methodNamed B.named
  have hlocks := B.notSynchronized
  have hl := lv_entry ([.ref o, .int pp, .int cc]) (n := 4) (Nat.le_of_ble_eq_true rfl)
  rw [lg_entry_eq]
  generalize (lg_sl ([.ref o, .int pp, .int cc]) ++ List.replicate (4 - (lg_sl ([.ref o, .int pp, .int cc])).length) Slot.unset).toArray = ls at hl ⊢
  have hl : lv_has ls 4 [(0, .ref o), (1, .int pp), (2, .int cc)] := hl
  refine lv_iconst (v := nI 1) hx hb d_P_find_0 (by decide +kernel) ?_
  refine lv_istore_n (lv' := [(3, .int (nI 1)), (0, .ref o), (1, .int pp), (2, .int cc)]) hx hb d_P_find_1 rfl hl (by decide) rfl (fun ls hl => ?_)
  refine sx_loop (σ := Nat) (fun x => 1 ≤ x ∧ x ≤ n ∧ ∀ k, 0 < k → k < x → ¬ (α 1 k = pp ∧ α 2 k = cc)) (fun x => [(3, .int (nI x)), (0, .ref o), (1, .int pp), (2, .int cc)]) (fun x => n - x) 1 (⟨by omega, by omega, fun k a b => by omega⟩) (lv_sub hl [0, 1, 2, 3] rfl) (fun x hJ ih ls hl => ?_)
  obtain ⟨i, rfl⟩ : ∃ y, y = x := ⟨_, rfl⟩
  obtain ⟨hi1, hin, hno⟩ := hJ
  have hl : lv_has ls 4 [(3, .int (nI i)), (0, .ref o), (1, .int pp), (2, .int cc)] := hl
  have ih_2 := ih
  refine lv_iload_n hx hb d_P_find_2 rfl (lv_at hl 0 rfl) ?_
  refine lv_aload_n hx hb d_P_find_3 rfl (lv_at hl 1 rfl) ?_
  refine va_get (D := D) (ci := 1) (v := .int (nI n)) (C := R_P) (T := T_P) (N := 5) hx hb hts iw_P hown hK.1 hP 0 rfl rfl 4 (by decide) (hts _ wd_36) (fun _ h9 => h9) rfl d_P_find_4 ?_
  refine lv_icmp_ge (tgt := 38) hx hb d_P_find_7 (by decide) (fun c_1 => ?_) (fun c_1 => ?_)
  · have c_1 : n ≤ i := (nI_leI (by omega) (by omega)).mp c_1
    refine lv_iconst (v := (-1)) hx hb d_P_find_38 (by decide +kernel) ?_
    exact W.iret (v := (-1)) hx hb hr (fun t ht hW => ⟨(-1), rfl, (sx_ch_none (by omega) (by rw [show n = i by omega]; exact hno)).symm, ht⟩) (fun _ h => by cases h) d_P_find_39
  · have c_1 : i < n := Nat.not_le.mp (fun z => c_1 ((nI_leI (by omega) (by omega)).mpr z))
    refine lv_aload_n hx hb d_P_find_10 rfl (lv_at hl 1 rfl) ?_
    refine va_get (D := D) (ci := 1) (v := .ref a1) (C := R_P) (T := T_P) (N := 5) hx hb hts iw_P hown hK.1 hP 0 rfl rfl 0 (by decide) (hts _ wd_32) (fun _ h9 => h9) rfl d_P_find_11 ?_
    refine lv_iload_n hx hb d_P_find_14 rfl (lv_at hl 0 rfl) ?_
    refine va_iald hx hb hK.1 hP 1 0 rfl rfl (vp_in_nI (by omega) (by decide)) d_P_find_15 ?_
    refine sx_asi (congrArg (α 1) (nI_clamp (by omega))) ?_
    refine lv_iload_n hx hb d_P_find_16 rfl (lv_at hl 2 rfl) ?_
    refine lv_icmp_ne (tgt := 32) hx hb d_P_find_17 (by decide) (fun c_2 => ?_) (fun c_2 => ?_)
    · refine lv_iinc (v := nI (i + 1)) (lv' := [(3, .int (nI (i + 1))), (0, .ref o), (1, .int pp), (2, .int cc)]) hx hb d_P_find_32 hl (k := 0) rfl (nI_1 i) (by decide) rfl (fun ls hl => ?_)
      refine lv_goto (tgt := 2) hx hb d_P_find_35 (by decide) ?_
      exact ih_2 (i + 1) (⟨by omega, by omega, sx_all_s hno (by first | exact fun q => absurd q.1 (by assumption) | exact fun q => absurd q.2 (by assumption))⟩) (by omega) ls (lv_sub hl [0, 1, 2, 3] rfl)
    · refine lv_aload_n hx hb d_P_find_20 rfl (lv_at hl 1 rfl) ?_
      refine va_get (D := D) (ci := 1) (v := .ref a2) (C := R_P) (T := T_P) (N := 5) hx hb hts iw_P hown hK.1 hP 0 rfl rfl 1 (by decide) (hts _ wd_33) (fun _ h9 => h9) rfl d_P_find_21 ?_
      refine lv_iload_n hx hb d_P_find_24 rfl (lv_at hl 0 rfl) ?_
      refine va_cald hx hb hK.1 hP 2 2 rfl rfl (vp_in_nI (by omega) (by decide)) d_P_find_25 ?_
      refine sx_asi (congrArg (α 2) (nI_clamp (by omega))) ?_
      refine lv_iload_n hx hb d_P_find_26 rfl (lv_at hl 3 rfl) ?_
      refine lv_icmp_ne (tgt := 32) hx hb d_P_find_27 (by decide) (fun c_3 => ?_) (fun c_3 => ?_)
      · refine lv_iinc (v := nI (i + 1)) (lv' := [(3, .int (nI (i + 1))), (0, .ref o), (1, .int pp), (2, .int cc)]) hx hb d_P_find_32 hl (k := 0) rfl (nI_1 i) (by decide) rfl (fun ls hl => ?_)
        refine lv_goto (tgt := 2) hx hb d_P_find_35 (by decide) ?_
        exact ih_2 (i + 1) (⟨by omega, by omega, sx_all_s hno (by first | exact fun q => absurd q.1 (by assumption) | exact fun q => absurd q.2 (by assumption))⟩) (by omega) ls (lv_sub hl [0, 1, 2, 3] rfl)
      · refine lv_iload_n hx hb d_P_find_30 rfl (lv_at hl 0 rfl) ?_
        exact W.iret (v := nI i) hx hb hr (fun t ht hW => ⟨nI i, rfl, (sx_ch_some (by omega) hDI (by omega) (by omega) c_2 c_3).symm, ht⟩) (fun _ h => by cases h) d_P_find_31

set_option maxHeartbeats 4000000 in
set_option maxRecDepth 100000 in
theorem k_under (l : Launch) (D : va_G) (cA : Nat → ClassId) (o a1 a2 a3 a4 : Nat) (n : Nat) (par ltr : Nat → Int32) (ab un : Nat → Int64) (j : Nat) (hj : j < n) (hn : n ≤ 60) : Met l y_P_under w_P_under ({ frames := 1, cells := 0, slots := 0, locals := 21 }) (sx_Pr D cA [.ref o, .int (nI j)] (wP cA o a1 a2 a3 a4 (nI n) par ltr ab un)) (vp_Sl (fun r => r = un j)) 0 0 (fun _ => False) := by
  refine Met.ofW (cc := b_P_under) (maxL := 2) (ret := (some .long)) (by decide) rfl ?_
  intro pG eG s m args below meth cG s₁ B hml hv
  obtain ⟨rfl, hP, hK⟩ := hv
  have hx := B.exec
  have hb := B.bytes
  have hr := B.returns
  have hts0 := atoms_spec (ws := w_P_under) B.pre
  have hts : ∀ w ∈ sx_gw, w.before _ s = true := fun w h => hts0 w (List.mem_cons_of_mem _ h)
  have hown : s.vm.findClass R_P = some m.cls := findClass_of_methodNamed B.named
  have hlocks := B.notSynchronized
  have hl := lv_entry ([.ref o, .int (nI j)]) (n := 2) (Nat.le_of_ble_eq_true rfl)
  rw [lg_entry_eq]
  generalize (lg_sl ([.ref o, .int (nI j)]) ++ List.replicate (2 - (lg_sl ([.ref o, .int (nI j)])).length) Slot.unset).toArray = ls at hl ⊢
  have hl : lv_has ls 2 [(0, .ref o), (1, .int (nI j))] := hl
  refine lv_aload_n hx hb d_P_under_0 rfl (lv_at hl 0 rfl) ?_
  refine lv_iload_n hx hb d_P_under_1 rfl (lv_at hl 1 rfl) ?_
  refine vp_callSi (va_runV (As := [.int (nI j)]) (rest := []) ⟨hx, hb, hml, hown, hts⟩ (k_has l D cA o a1 a2 a3 a4 n par ltr ab un (nI j)) (cwV 1 hts (sx_GV wd_107 wd_93 wd_94 wd_3 wd_95) rfl rfl rfl (by decide +kernel) ⟨Nat.le_of_ble_eq_true rfl, Nat.le_of_ble_eq_true rfl⟩) (sx_preV hK hP (va_recv hK.1 hP (ci := 1) (q0 := 0) rfl rfl)) rfl rfl hl.1 rfl (lv_room (Nat.le_of_ble_eq_true rfl)) d_P_under_2 ⟨Nat.le_of_ble_eq_true rfl, Nat.le_of_ble_eq_true rfl⟩).run (fun r_2 hr_1 => ?_)
  rw [sx_has_nI (by omega) (by omega)] at hr_1
  subst hr_1
  refine lv_if_eq (tgt := 17) hx hb d_P_under_5 (by decide) (fun c_3 => ?_) (fun c_3 => ?_)
  · exact absurd c_3 (by decide)
  · refine lv_aload_n hx hb d_P_under_8 rfl (lv_at hl 0 rfl) ?_
    refine va_get (D := D) (ci := 1) (v := .ref a4) (C := R_P) (T := T_P) (N := 5) hx hb hts iw_P hown hK.1 hP 0 rfl rfl 3 (by decide) (hts _ wd_35) (fun _ h9 => h9) rfl d_P_under_9 ?_
    refine lv_iload_n hx hb d_P_under_12 rfl (lv_at hl 1 rfl) ?_
    refine va_lald hx hb hK.1 hP 4 3 rfl rfl (vp_in_nI (by omega) (by decide)) d_P_under_13 ?_
    refine sx_asl (congrArg un (nI_clamp (by omega))) ?_
    refine lv_goto (tgt := 18) hx hb d_P_under_14 (by decide) ?_
    exact W.lret (v := un j) hx hb hr (fun t ht hW => ⟨un j, rfl, rfl, ht⟩) (fun _ h => by cases h) d_P_under_18

set_option maxHeartbeats 4000000 in
set_option maxRecDepth 100000 in
theorem k_way (l : Launch) (D : va_G) (cA : Nat → ClassId) (o a1 a2 a3 a4 : Nat) (n : Nat) (par ltr : Nat → Int32) (ab un : Nat → Int64) (j : Nat) (hj : j < n) (hn : n ≤ 60) : Met l y_P_inTheWayOf w_P_inTheWayOf ({ frames := 1, cells := 0, slots := 0, locals := 21 }) (sx_Pr D cA [.ref o, .int (nI j)] (wP cA o a1 a2 a3 a4 (nI n) par ltr ab un)) (vp_Sl (fun r => r = (ab j ||| un j) &&& (sx_on j ^^^ (-1)))) 0 0 (fun _ => False) := by
  refine Met.ofW (cc := b_P_inTheWayOf) (maxL := 2) (ret := (some .long)) (by decide) rfl ?_
  intro pG eG s m args below meth cG s₁ B hml hv
  obtain ⟨rfl, hP, hK⟩ := hv
  have hx := B.exec
  have hb := B.bytes
  have hr := B.returns
  have hts0 := atoms_spec (ws := w_P_inTheWayOf) B.pre
  have hts : ∀ w ∈ sx_gw, w.before _ s = true := fun w h => hts0 w (List.mem_cons_of_mem _ h)
  have hown : s.vm.findClass R_P = some m.cls := findClass_of_methodNamed B.named
  have hlocks := B.notSynchronized
  have hl := lv_entry ([.ref o, .int (nI j)]) (n := 2) (Nat.le_of_ble_eq_true rfl)
  rw [lg_entry_eq]
  generalize (lg_sl ([.ref o, .int (nI j)]) ++ List.replicate (2 - (lg_sl ([.ref o, .int (nI j)])).length) Slot.unset).toArray = ls at hl ⊢
  have hl : lv_has ls 2 [(0, .ref o), (1, .int (nI j))] := hl
  refine lv_aload_n hx hb d_P_inTheWayOf_0 rfl (lv_at hl 0 rfl) ?_
  refine lv_iload_n hx hb d_P_inTheWayOf_1 rfl (lv_at hl 1 rfl) ?_
  refine vp_callSi (va_runV (As := [.int (nI j)]) (rest := []) ⟨hx, hb, hml, hown, hts⟩ (k_has l D cA o a1 a2 a3 a4 n par ltr ab un (nI j)) (cwV 1 hts (sx_GV wd_107 wd_93 wd_94 wd_3 wd_95) rfl rfl rfl (by decide +kernel) ⟨Nat.le_of_ble_eq_true rfl, Nat.le_of_ble_eq_true rfl⟩) (sx_preV hK hP (va_recv hK.1 hP (ci := 1) (q0 := 0) rfl rfl)) rfl rfl hl.1 rfl (lv_room (Nat.le_of_ble_eq_true rfl)) d_P_inTheWayOf_2 ⟨Nat.le_of_ble_eq_true rfl, Nat.le_of_ble_eq_true rfl⟩).run (fun r_2 hr_1 => ?_)
  rw [sx_has_nI (by omega) (by omega)] at hr_1
  subst hr_1
  refine lv_if_eq (tgt := 33) hx hb d_P_inTheWayOf_5 (by decide) (fun c_3 => ?_) (fun c_3 => ?_)
  · exact absurd c_3 (by decide)
  · refine lv_aload_n hx hb d_P_inTheWayOf_8 rfl (lv_at hl 0 rfl) ?_
    refine va_get (D := D) (ci := 1) (v := .ref a3) (C := R_P) (T := T_P) (N := 5) hx hb hts iw_P hown hK.1 hP 0 rfl rfl 2 (by decide) (hts _ wd_34) (fun _ h9 => h9) rfl d_P_inTheWayOf_9 ?_
    refine lv_iload_n hx hb d_P_inTheWayOf_12 rfl (lv_at hl 1 rfl) ?_
    refine va_lald hx hb hK.1 hP 3 3 rfl rfl (vp_in_nI (by omega) (by decide)) d_P_inTheWayOf_13 ?_
    refine sx_asl (congrArg ab (nI_clamp (by omega))) ?_
    refine lv_aload_n hx hb d_P_inTheWayOf_14 rfl (lv_at hl 0 rfl) ?_
    refine va_get (D := D) (ci := 1) (v := .ref a4) (C := R_P) (T := T_P) (N := 5) hx hb hts iw_P hown hK.1 hP 0 rfl rfl 3 (by decide) (hts _ wd_35) (fun _ h9 => h9) rfl d_P_inTheWayOf_15 ?_
    refine lv_iload_n hx hb d_P_inTheWayOf_18 rfl (lv_at hl 1 rfl) ?_
    refine va_lald hx hb hK.1 hP 4 3 rfl rfl (vp_in_nI (by omega) (by decide)) d_P_inTheWayOf_19 ?_
    refine sx_asl (congrArg un (nI_clamp (by omega))) ?_
    refine lv_lor hx hb d_P_inTheWayOf_20 ?_
    refine lv_iload_n hx hb d_P_inTheWayOf_21 rfl (lv_at hl 1 rfl) ?_
    refine vp_callSl (va_runSN (As := [.int (nI j)]) (rest := [.long ((ab j) ||| (un j))]) ⟨hx, hb, hml, hown, hts⟩ (k_only l D cA j) ⟨va_cnB 1 hts (sx_GI wd_31) rfl rfl rfl (hK.2.1 _ wd_29) (hts _ wd_1) (by decide +kernel) ⟨Nat.le_of_ble_eq_true rfl, Nat.le_of_ble_eq_true rfl⟩, hts _ wd_30, trivial⟩ (sx_preS hK (sx_P0 : va_P D vwCl [] s.heap)) rfl rfl hl.1 rfl (lv_room (Nat.le_of_ble_eq_true rfl)) d_P_inTheWayOf_22 ⟨Nat.le_of_ble_eq_true rfl, Nat.le_of_ble_eq_true rfl⟩).run (fun r_5 hr_4 => ?_)
    subst hr_4
    refine lv_ldc2 (own := R_P) (v := (-1)) hx hb hown (hts _ wd_120) d_P_inTheWayOf_25 ?_
    refine lv_lxor hx hb d_P_inTheWayOf_28 ?_
    refine lv_land hx hb d_P_inTheWayOf_29 ?_
    refine lv_goto (tgt := 34) hx hb d_P_inTheWayOf_30 (by decide) ?_
    exact W.lret (v := ((ab j) ||| (un j)) &&& ((sx_on j) ^^^ (-1))) hx hb hr (fun t ht hW => ⟨((ab j) ||| (un j)) &&& ((sx_on j) ^^^ (-1)), rfl, rfl, ht⟩) (fun _ h => by cases h) d_P_inTheWayOf_34

set_option maxHeartbeats 4000000 in
set_option maxRecDepth 100000 in
theorem k_addF (l : Launch) (D : va_G) (cA : Nat → ClassId) (o a1 a2 a3 a4 : Nat) (n : Nat) (par ltr : Nat → Int32) (ab un : Nat → Int64) (hn : n = 60) (j : Nat) (hj : j < n) (ch : Int32) : Met l y_P_add w_P_add ({ frames := 1, cells := 0, slots := 0, locals := 21 }) (sx_Pr D cA [.ref o, .int (nI j), .int ch] (wP cA o a1 a2 a3 a4 (nI n) par ltr ab un)) (vp_Si (fun r => r = -1)) 0 0 (fun _ => False) := by
  refine Met.ofW (cc := b_P_add) (maxL := 5) (ret := (some .int)) (by decide) rfl ?_
  intro pG eG s m args below meth cG s₁ B hml hv
  obtain ⟨rfl, hP, hK⟩ := hv
  have hx := B.exec
  have hb := B.bytes
  have hr := B.returns
  have hts0 := atoms_spec (ws := w_P_add) B.pre
  have hts : ∀ w ∈ sx_gw, w.before _ s = true := fun w h => hts0 w (List.mem_cons_of_mem _ h)
  have hown : s.vm.findClass R_P = some m.cls := findClass_of_methodNamed B.named
  have hlocks := B.notSynchronized
  have hl := lv_entry ([.ref o, .int (nI j), .int ch]) (n := 5) (Nat.le_of_ble_eq_true rfl)
  rw [lg_entry_eq]
  generalize (lg_sl ([.ref o, .int (nI j), .int ch]) ++ List.replicate (5 - (lg_sl ([.ref o, .int (nI j), .int ch])).length) Slot.unset).toArray = ls at hl ⊢
  have hl : lv_has ls 5 [(0, .ref o), (1, .int (nI j)), (2, .int ch)] := hl
  refine lv_aload_n hx hb d_P_add_0 rfl (lv_at hl 0 rfl) ?_
  refine lv_iload_n hx hb d_P_add_1 rfl (lv_at hl 1 rfl) ?_
  refine vp_callSi (va_runV (As := [.int (nI j)]) (rest := []) ⟨hx, hb, hml, hown, hts⟩ (k_has l D cA o a1 a2 a3 a4 n par ltr ab un (nI j)) (cwV 1 hts (sx_GV wd_107 wd_93 wd_94 wd_3 wd_95) rfl rfl rfl (by decide +kernel) ⟨Nat.le_of_ble_eq_true rfl, Nat.le_of_ble_eq_true rfl⟩) (sx_preV hK hP (va_recv hK.1 hP (ci := 1) (q0 := 0) rfl rfl)) rfl rfl hl.1 rfl (lv_room (Nat.le_of_ble_eq_true rfl)) d_P_add_2 ⟨Nat.le_of_ble_eq_true rfl, Nat.le_of_ble_eq_true rfl⟩).run (fun r_2 hr_1 => ?_)
  rw [sx_has_nI (by omega) (by omega)] at hr_1
  subst hr_1
  refine lv_if_eq (tgt := 17) hx hb d_P_add_5 (by decide) (fun c_3 => ?_) (fun c_3 => ?_)
  · exact absurd c_3 (by decide)
  · refine lv_aload_n hx hb d_P_add_8 rfl (lv_at hl 0 rfl) ?_
    refine va_get (D := D) (ci := 1) (v := .int (nI n)) (C := R_P) (T := T_P) (N := 5) hx hb hts iw_P hown hK.1 hP 0 rfl rfl 4 (by decide) (hts _ wd_36) (fun _ h9 => h9) rfl d_P_add_9 ?_
    refine lv_bipush (v := nI 60) hx hb d_P_add_12 (by decide +kernel) ?_
    refine lv_icmp_lt (tgt := 19) hx hb d_P_add_14 (by decide) (fun c_4 => ?_) (fun c_4 => ?_)
    · have c_4 : n < 60 := (nI_ltI (by omega) (by decide)).mp c_4
      omega
    · have c_4 : 60 ≤ n := Nat.not_lt.mp (fun z => c_4 ((nI_ltI (by omega) (by decide)).mpr z))
      refine lv_iconst (v := (-1)) hx hb d_P_add_17 (by decide +kernel) ?_
      exact W.iret (v := (-1)) hx hb hr (fun t ht hW => ⟨(-1), rfl, rfl, ht⟩) (fun _ h => by cases h) d_P_add_18

set_option maxHeartbeats 4000000 in
set_option maxRecDepth 100000 in
theorem k_add (l : Launch) (D : va_G) (cA : Nat → ClassId) (sz : Nat) (o a1 a2 a3 a4 : Nat) (n : Nat) (par ltr : Nat → Int32) (ab un : Nat → Int64) (hn : n < 60) (h1 : 1 ≤ n) (j : Nat) (hj : j < n) (ch : Int32) (hch : vp_nar .char ch = ch) : Met l y_P_add w_P_add ({ frames := 2, cells := 0, slots := 0, locals := 42 }) (sx_Pw D cA [.ref o, .int (nI j), .int ch] (wP cA o a1 a2 a3 a4 (nI n) par ltr ab un) sz) (va_Qi (fun r (_ : Unit) => r = nI n) (sx_Bw D (wP cA o a1 a2 a3 a4 (nI n) par ltr ab un) sz (fun _ => wP cA o a1 a2 a3 a4 (nI (n + 1)) (upd par n (nI j)) (upd ltr n ch) (vp_updL ab n (ab j ||| sx_on n)) (sx_unG un (ab j ||| sx_on n) n (n + 1)))) (va_A (wP cA o a1 a2 a3 a4 (nI n) par ltr ab un) sz)) 0 0 (va_A (wP cA o a1 a2 a3 a4 (nI n) par ltr ab un) sz) := by
  refine Met.ofW (cc := b_P_add) (maxL := 5) (ret := (some .int)) (by decide) rfl ?_
  intro pG eG s m args below meth cG s₁ B hml hv
  obtain ⟨rfl, hsz, hP, hK, hD0⟩ := hv
  have hx := B.exec
  have hb := B.bytes
  have hr := B.returns
  have hts0 := atoms_spec (ws := w_P_add) B.pre
  have hts : ∀ w ∈ sx_gw, w.before _ s = true := fun w h => hts0 w (List.mem_cons_of_mem _ h)
  have hown : s.vm.findClass R_P = some m.cls := findClass_of_methodNamed B.named
  have hlocks := B.notSynchronized
  subst hsz
  have hD := hD0.self (sz := s.heap.size)
  generalize hAe : va_A (wP cA o a1 a2 a3 a4 (nI n) par ltr ab un) s.heap.size = A at hD ⊢
  have hA : ∀ q : Nat, s.heap.size ≤ q → A q := fun q h => by rw [← hAe]; exact Or.inr h
  have hS : va_S A s.heap s.heap [] := va_S.rf
  have hl := lv_entry ([.ref o, .int (nI j), .int ch]) (n := 5) (Nat.le_of_ble_eq_true rfl)
  rw [lg_entry_eq]
  generalize (lg_sl ([.ref o, .int (nI j), .int ch]) ++ List.replicate (5 - (lg_sl ([.ref o, .int (nI j), .int ch])).length) Slot.unset).toArray = ls at hl ⊢
  have hl : lv_has ls 5 [(0, .ref o), (1, .int (nI j)), (2, .int ch)] := hl
  refine lv_aload_n hx hb d_P_add_0 rfl (lv_at hl 0 rfl) ?_
  refine lv_iload_n hx hb d_P_add_1 rfl (lv_at hl 1 rfl) ?_
  refine vp_callSi (va_runV (As := [.int (nI j)]) (rest := []) ⟨hx, hb, hml, hown, hts⟩ (k_has l D cA o a1 a2 a3 a4 n par ltr ab un (nI j)) (cwV 1 hts (sx_GV wd_107 wd_93 wd_94 wd_3 wd_95) rfl rfl rfl (by decide +kernel) ⟨Nat.le_of_ble_eq_true rfl, Nat.le_of_ble_eq_true rfl⟩) (sx_preV hK hP (va_recv hK.1 hP (ci := 1) (q0 := 0) rfl rfl)) rfl rfl hl.1 rfl (lv_room (Nat.le_of_ble_eq_true rfl)) d_P_add_2 ⟨Nat.le_of_ble_eq_true rfl, Nat.le_of_ble_eq_true rfl⟩).run (fun r_2 hr_1 => ?_)
  rw [sx_has_nI (by omega) (by omega)] at hr_1
  subst hr_1
  refine lv_if_eq (tgt := 17) hx hb d_P_add_5 (by decide) (fun c_3 => ?_) (fun c_3 => ?_)
  · exact absurd c_3 (by decide)
  · refine lv_aload_n hx hb d_P_add_8 rfl (lv_at hl 0 rfl) ?_
    refine va_get (D := D) (ci := 1) (v := .int (nI n)) (C := R_P) (T := T_P) (N := 5) hx hb hts iw_P hown hK.1 hP 0 rfl rfl 4 (by decide) (hts _ wd_36) (fun _ h9 => h9) rfl d_P_add_9 ?_
    refine lv_bipush (v := nI 60) hx hb d_P_add_12 (by decide +kernel) ?_
    refine lv_icmp_lt (tgt := 19) hx hb d_P_add_14 (by decide) (fun c_4 => ?_) (fun c_4 => ?_)
    · have c_4 : n < 60 := (nI_ltI (by omega) (by decide)).mp c_4
      refine lv_aload_n hx hb d_P_add_19 rfl (lv_at hl 0 rfl) ?_
      refine va_get (D := D) (ci := 1) (v := .int (nI n)) (C := R_P) (T := T_P) (N := 5) hx hb hts iw_P hown hK.1 hP 0 rfl rfl 4 (by decide) (hts _ wd_36) (fun _ h9 => h9) rfl d_P_add_20 ?_
      refine lv_istore_n (lv' := [(3, .int (nI n)), (0, .ref o), (1, .int (nI j)), (2, .int ch)]) hx hb d_P_add_23 rfl hl (by decide) rfl (fun ls hl => ?_)
      refine lv_aload_n hx hb d_P_add_24 rfl (lv_at hl 1 rfl) ?_
      refine lv_dup hx hb d_P_add_25 rfl ?_
      refine va_get (D := D) (ci := 1) (v := .int (nI n)) (C := R_P) (T := T_P) (N := 5) hx hb hts iw_P hown hK.1 hP 0 rfl rfl 4 (by decide) (hts _ wd_36) (fun _ h9 => h9) rfl d_P_add_26 ?_
      refine lv_iconst (v := nI 1) hx hb d_P_add_29 (by decide +kernel) ?_
      refine lv_iadd hx hb d_P_add_30 ?_
      refine sx_asi (y := nI (n + 1)) (nI_add n 1) ?_
      refine va_put (D := D) (ci := 1) (v := .int (nI (n + 1))) (ty := .int) (C := R_P) (T := T_P) (N := 5) hx hb hts iw_P t_P o_P n_P hown hK.1 hP hD hS 0 rfl rfl 4 (by decide) (hts _ wd_36) (fun _ h9 => h9) rfl (by decide +kernel) rfl rfl (Nat.le_of_ble_eq_true rfl) d_P_add_31 (fun H locs hP hD hS => ?_)
      have hP : va_P D vwCl (wP cA o a1 a2 a3 a4 (nI (n + 1)) par ltr ab un) H := hP
      have hD : va_D A (wP cA o a1 a2 a3 a4 (nI (n + 1)) par ltr ab un) := hD
      refine lv_aload_n hx hb d_P_add_34 rfl (lv_at hl 1 rfl) ?_
      refine va_get (D := D) (ci := 1) (v := .ref a1) (C := R_P) (T := T_P) (N := 5) hx hb hts iw_P hown hK.1 hP 0 rfl rfl 0 (by decide) (hts _ wd_32) (fun _ h9 => h9) rfl d_P_add_35 ?_
      refine lv_iload_n hx hb d_P_add_38 rfl (lv_at hl 0 rfl) ?_
      refine lv_iload_n hx hb d_P_add_39 rfl (lv_at hl 2 rfl) ?_
      refine va_iast hx hb hK.1 hP hD hS 1 0 rfl rfl (vp_in_nI (by omega) (by decide)) d_P_add_40 (fun H locs hP hD hS => ?_)
      rw [nI_clamp (by omega)] at hP hD
      have hP : va_P D vwCl (wP cA o a1 a2 a3 a4 (nI (n + 1)) (upd par n (nI j)) ltr ab un) H := hP
      have hD : va_D A (wP cA o a1 a2 a3 a4 (nI (n + 1)) (upd par n (nI j)) ltr ab un) := hD
      refine lv_aload_n hx hb d_P_add_41 rfl (lv_at hl 1 rfl) ?_
      refine va_get (D := D) (ci := 1) (v := .ref a2) (C := R_P) (T := T_P) (N := 5) hx hb hts iw_P hown hK.1 hP 0 rfl rfl 1 (by decide) (hts _ wd_33) (fun _ h9 => h9) rfl d_P_add_42 ?_
      refine lv_iload_n hx hb d_P_add_45 rfl (lv_at hl 0 rfl) ?_
      refine lv_iload_n hx hb d_P_add_46 rfl (lv_at hl 3 rfl) ?_
      refine va_cast hx hb hK.1 hP hD hS 2 2 rfl rfl (vp_in_nI (by omega) (by decide)) d_P_add_47 (fun H locs hP hD hS => ?_)
      rw [nI_clamp (by omega)] at hP hD
      rw [show vp_nar .char ch = ch from hch] at hP hD
      have hP : va_P D vwCl (wP cA o a1 a2 a3 a4 (nI (n + 1)) (upd par n (nI j)) (upd ltr n ch) ab un) H := hP
      have hD : va_D A (wP cA o a1 a2 a3 a4 (nI (n + 1)) (upd par n (nI j)) (upd ltr n ch) ab un) := hD
      refine lv_aload_n hx hb d_P_add_48 rfl (lv_at hl 1 rfl) ?_
      refine va_get (D := D) (ci := 1) (v := .ref a3) (C := R_P) (T := T_P) (N := 5) hx hb hts iw_P hown hK.1 hP 0 rfl rfl 2 (by decide) (hts _ wd_34) (fun _ h9 => h9) rfl d_P_add_49 ?_
      refine lv_iload_n hx hb d_P_add_52 rfl (lv_at hl 0 rfl) ?_
      refine lv_aload_n hx hb d_P_add_53 rfl (lv_at hl 1 rfl) ?_
      refine va_get (D := D) (ci := 1) (v := .ref a3) (C := R_P) (T := T_P) (N := 5) hx hb hts iw_P hown hK.1 hP 0 rfl rfl 2 (by decide) (hts _ wd_34) (fun _ h9 => h9) rfl d_P_add_54 ?_
      refine lv_iload_n hx hb d_P_add_57 rfl (lv_at hl 2 rfl) ?_
      refine va_lald hx hb hK.1 hP 3 3 rfl rfl (vp_in_nI (by omega) (by decide)) d_P_add_58 ?_
      refine sx_asl (congrArg ab (nI_clamp (by omega))) ?_
      refine lv_iload_n hx hb d_P_add_59 rfl (lv_at hl 0 rfl) ?_
      refine vp_callSl (va_runSN (As := [.int (nI n)]) (rest := [.long (ab j), .int (nI n), .ref a3]) ⟨hx, hb, hml, hown, hts⟩ (k_only l D cA n) ⟨va_cnB 1 hts (sx_GI wd_31) rfl rfl rfl (hK.2.1 _ wd_29) (hts _ wd_1) (by decide +kernel) ⟨Nat.le_of_ble_eq_true rfl, Nat.le_of_ble_eq_true rfl⟩, hts _ wd_30, trivial⟩ (sx_preS hK (sx_P0 : va_P D vwCl [] H)) rfl rfl hl.1 rfl (lv_room (Nat.le_of_ble_eq_true rfl)) d_P_add_60 ⟨Nat.le_of_ble_eq_true rfl, Nat.le_of_ble_eq_true rfl⟩).run (fun r_6 hr_5 => ?_)
      subst hr_5
      refine lv_lor hx hb d_P_add_63 ?_
      refine va_last hx hb hK.1 hP hD hS 3 3 rfl rfl (vp_in_nI (by omega) (by decide)) d_P_add_64 (fun H locs hP hD hS => ?_)
      rw [nI_clamp (by omega)] at hP hD
      have hP : va_P D vwCl (wP cA o a1 a2 a3 a4 (nI (n + 1)) (upd par n (nI j)) (upd ltr n ch) (vp_updL ab n ((ab j) ||| (sx_on n))) un) H := hP
      have hD : va_D A (wP cA o a1 a2 a3 a4 (nI (n + 1)) (upd par n (nI j)) (upd ltr n ch) (vp_updL ab n ((ab j) ||| (sx_on n))) un) := hD
      refine lv_iconst (v := nI 0) hx hb d_P_add_65 (by decide +kernel) ?_
      refine lv_istore (lv' := [(4, .int (nI 0)), (3, .int (nI n)), (0, .ref o), (1, .int (nI j)), (2, .int ch)]) hx hb d_P_add_66 hl (by decide) rfl (fun ls hl => ?_)
      have hP : va_P D vwCl (wP cA o a1 a2 a3 a4 (nI (n + 1)) (upd par n (nI j)) (upd ltr n ch) (vp_updL ab n ((ab j) ||| (sx_on n))) (sx_unG un (ab j ||| sx_on n) n 0)) H := by rw [sx_unG_0]; exact hP
      have hD : va_D A (wP cA o a1 a2 a3 a4 (nI (n + 1)) (upd par n (nI j)) (upd ltr n ch) (vp_updL ab n ((ab j) ||| (sx_on n))) (sx_unG un (ab j ||| sx_on n) n 0)) := by rw [sx_unG_0]; exact hD
      refine sx_loopW (σ := Nat) (fun x => x ≤ n + 1) (fun x => [(4, .int (nI x)), (3, .int (nI n)), (0, .ref o), (1, .int (nI j)), (2, .int ch)]) (fun x => wP cA o a1 a2 a3 a4 (nI (n + 1)) (upd par n (nI j)) (upd ltr n ch) (vp_updL ab n ((ab j) ||| (sx_on n))) (sx_unG un (ab j ||| sx_on n) n x)) (fun x => n + 1 - x) 0 (Nat.zero_le _) (lv_sub hl [0, 1, 2, 3, 4] rfl) hP hD hS (fun x hJ ih ls H locs hl hP hD hS => ?_)
      obtain ⟨i, rfl⟩ : ∃ y, y = x := ⟨_, rfl⟩
      have hl : lv_has ls 5 [(4, .int (nI i)), (3, .int (nI n)), (0, .ref o), (1, .int (nI j)), (2, .int ch)] := hl
      have hP : va_P D vwCl (wP cA o a1 a2 a3 a4 (nI (n + 1)) (upd par n (nI j)) (upd ltr n ch) (vp_updL ab n ((ab j) ||| (sx_on n))) (sx_unG un (ab j ||| sx_on n) n i)) H := hP
      have hD : va_D A (wP cA o a1 a2 a3 a4 (nI (n + 1)) (upd par n (nI j)) (upd ltr n ch) (vp_updL ab n ((ab j) ||| (sx_on n))) (sx_unG un (ab j ||| sx_on n) n i)) := hD
      have ih_68 := ih
      refine lv_iload hx hb d_P_add_68 (lv_at hl 0 rfl) ?_
      refine lv_aload_n hx hb d_P_add_70 rfl (lv_at hl 2 rfl) ?_
      refine va_get (D := D) (ci := 1) (v := .int (nI (n + 1))) (C := R_P) (T := T_P) (N := 5) hx hb hts iw_P hown hK.1 hP 0 rfl rfl 4 (by decide) (hts _ wd_36) (fun _ h9 => h9) rfl d_P_add_71 ?_
      refine lv_icmp_ge (tgt := 111) hx hb d_P_add_74 (by decide) (fun c_7 => ?_) (fun c_7 => ?_)
      · have c_7 : n + 1 ≤ i := (nI_leI (by omega) (by omega)).mp c_7
        refine lv_iload_n hx hb d_P_add_111 rfl (lv_at hl 1 rfl) ?_
        have hi : i = n + 1 := by omega
        subst hi
        have hP9 : va_P D vwCl (wP cA o a1 a2 a3 a4 (nI (n + 1)) (upd par n (nI j)) (upd ltr n ch) (vp_updL ab n (ab j ||| sx_on n)) (sx_unG un (ab j ||| sx_on n) n (n + 1))) H := hP
        have hD9 : va_D A (wP cA o a1 a2 a3 a4 (nI (n + 1)) (upd par n (nI j)) (upd ltr n ch) (vp_updL ab n (ab j ||| sx_on n)) (sx_unG un (ab j ||| sx_on n) n (n + 1))) := hD
        exact W.iret (v := nI n) hx hb hr (fun t ht hW => ⟨⟨nI n, (), rfl, rfl, by rw [ht]; exact hP9, by rw [hAe]; exact hD9⟩, hS.F ht⟩) hS.2.2 d_P_add_112
      · have c_7 : i < n + 1 := Nat.not_le.mp (fun z => c_7 ((nI_leI (by omega) (by omega)).mpr z))
        refine lv_aload_n hx hb d_P_add_77 rfl (lv_at hl 2 rfl) ?_
        refine va_get (D := D) (ci := 1) (v := .ref a3) (C := R_P) (T := T_P) (N := 5) hx hb hts iw_P hown hK.1 hP 0 rfl rfl 2 (by decide) (hts _ wd_34) (fun _ h9 => h9) rfl d_P_add_78 ?_
        refine lv_iload_n hx hb d_P_add_81 rfl (lv_at hl 1 rfl) ?_
        refine va_lald hx hb hK.1 hP 3 3 rfl rfl (vp_in_nI (by omega) (by decide)) d_P_add_82 ?_
        refine sx_asl (congrArg (vp_updL ab n ((ab j) ||| (sx_on n))) (nI_clamp (by omega))) ?_
        refine sx_asl (y := ab j ||| sx_on n) pk_uLs ?_
        refine lv_iload hx hb d_P_add_83 (lv_at hl 0 rfl) ?_
        refine vp_callSi (va_runSN (As := [.long (ab j ||| sx_on n), .int (nI i)]) (rest := []) ⟨hx, hb, hml, hown, hts⟩ (k_holds l D cA (ab j ||| sx_on n) i (by omega)) ⟨va_cnB 2 hts (sx_GI wd_110) rfl rfl rfl (hK.2.1 _ wd_108) (hts _ wd_1) (by decide +kernel) ⟨Nat.le_of_ble_eq_true rfl, Nat.le_of_ble_eq_true rfl⟩, hts _ wd_109, trivial⟩ (sx_preS hK (sx_P0 : va_P D vwCl [] H)) rfl rfl hl.1 rfl (lv_room (Nat.le_of_ble_eq_true rfl)) d_P_add_85 ⟨Nat.le_of_ble_eq_true rfl, Nat.le_of_ble_eq_true rfl⟩).run (fun r_9 hr_8 => ?_)
        subst hr_8
        refine lv_if_eq (tgt := 105) hx hb d_P_add_88 (by decide) (fun c_10 => ?_) (fun c_10 => ?_)
        · have c_10 : (sx_bt (ab j ||| sx_on n) i) = false := sx_bI0 c_10
          refine lv_iinc (v := nI (i + 1)) (lv' := [(4, .int (nI (i + 1))), (3, .int (nI n)), (0, .ref o), (1, .int (nI j)), (2, .int ch)]) hx hb d_P_add_105 hl (k := 0) rfl (nI_1 i) (by decide) rfl (fun ls hl => ?_)
          refine lv_goto (tgt := 68) hx hb d_P_add_108 (by decide) ?_
          rw [sx_unG_f c_10] at hP hD
          exact ih_68 (i + 1) ((by omega : i + 1 ≤ n + 1)) (by omega) ls _ _ (lv_sub hl [0, 1, 2, 3, 4] rfl) hP hD hS
        · have c_10 : (sx_bt (ab j ||| sx_on n) i) = true := sx_bIn c_10
          refine lv_aload_n hx hb d_P_add_91 rfl (lv_at hl 2 rfl) ?_
          refine va_get (D := D) (ci := 1) (v := .ref a4) (C := R_P) (T := T_P) (N := 5) hx hb hts iw_P hown hK.1 hP 0 rfl rfl 3 (by decide) (hts _ wd_35) (fun _ h9 => h9) rfl d_P_add_92 ?_
          refine lv_iload hx hb d_P_add_95 (lv_at hl 0 rfl) ?_
          refine lv_dup2_11 hx hb d_P_add_97 rfl rfl ?_
          refine va_lald hx hb hK.1 hP 4 3 rfl rfl (vp_in_nI (by omega) (by decide)) d_P_add_98 ?_
          refine sx_asl (congrArg (sx_unG un (ab j ||| sx_on n) n i) (nI_clamp (by omega))) ?_
          refine lv_iload_n hx hb d_P_add_99 rfl (lv_at hl 1 rfl) ?_
          refine vp_callSl (va_runSN (As := [.int (nI n)]) (rest := [.long ((sx_unG un (ab j ||| sx_on n) n i) i), .int (nI i), .ref a4]) ⟨hx, hb, hml, hown, hts⟩ (k_only l D cA n) ⟨va_cnB 1 hts (sx_GI wd_31) rfl rfl rfl (hK.2.1 _ wd_29) (hts _ wd_1) (by decide +kernel) ⟨Nat.le_of_ble_eq_true rfl, Nat.le_of_ble_eq_true rfl⟩, hts _ wd_30, trivial⟩ (sx_preS hK (sx_P0 : va_P D vwCl [] H)) rfl rfl hl.1 rfl (lv_room (Nat.le_of_ble_eq_true rfl)) d_P_add_100 ⟨Nat.le_of_ble_eq_true rfl, Nat.le_of_ble_eq_true rfl⟩).run (fun r_12 hr_11 => ?_)
          subst hr_11
          refine lv_lor hx hb d_P_add_103 ?_
          refine va_last hx hb hK.1 hP hD hS 4 3 rfl rfl (vp_in_nI (by omega) (by decide)) d_P_add_104 (fun H locs hP hD hS => ?_)
          rw [nI_clamp (by omega)] at hP hD
          have hP : va_P D vwCl (wP cA o a1 a2 a3 a4 (nI (n + 1)) (upd par n (nI j)) (upd ltr n ch) (vp_updL ab n ((ab j) ||| (sx_on n))) (vp_updL (sx_unG un (ab j ||| sx_on n) n i) i (((sx_unG un (ab j ||| sx_on n) n i) i) ||| (sx_on n)))) H := hP
          have hD : va_D A (wP cA o a1 a2 a3 a4 (nI (n + 1)) (upd par n (nI j)) (upd ltr n ch) (vp_updL ab n ((ab j) ||| (sx_on n))) (vp_updL (sx_unG un (ab j ||| sx_on n) n i) i (((sx_unG un (ab j ||| sx_on n) n i) i) ||| (sx_on n)))) := hD
          refine lv_iinc (v := nI (i + 1)) (lv' := [(4, .int (nI (i + 1))), (3, .int (nI n)), (0, .ref o), (1, .int (nI j)), (2, .int ch)]) hx hb d_P_add_105 hl (k := 0) rfl (nI_1 i) (by decide) rfl (fun ls hl => ?_)
          refine lv_goto (tgt := 68) hx hb d_P_add_108 (by decide) ?_
          rw [sx_unG_t c_10] at hP hD
          exact ih_68 (i + 1) ((by omega : i + 1 ≤ n + 1)) (by omega) ls _ _ (lv_sub hl [0, 1, 2, 3, 4] rfl) hP hD hS
    · have c_4 : 60 ≤ n := Nat.not_lt.mp (fun z => c_4 ((nI_ltI (by omega) (by decide)).mpr z))
      omega
end
section
set_option maxHeartbeats 4000000 in
set_option maxRecDepth 100000 in
theorem k_above (l : Launch) (D : va_G) (cA : Nat → ClassId) (o a1 a2 a3 a4 : Nat) (n : Nat) (par ltr : Nat → Int32) (ab un : Nat → Int64) (hR : sx_RP n par ab un) (hn : n ≤ 60) (w : Int64) : Met l y_P_withAbove w_P_withAbove ({ frames := 2, cells := 0, slots := 0, locals := 42 }) (sx_Pr D cA [.ref o, .long w] (wP cA o a1 a2 a3 a4 (nI n) par ltr ab un)) (vp_Sl (fun r => ∀ q, q < 64 → sx_bt r q = sx_any (fun k => sx_bt w k && sx_U par k q) n)) 0 0 (fun _ => False) := by
  refine Met.ofW (cc := b_P_withAbove) (maxL := 6) (ret := (some .long)) (by decide) rfl ?_
  intro pG eG s m args below meth cG s₁ B hml hv
  obtain ⟨rfl, hP, hK⟩ := hv
  have hx := B.exec
  have hb := B.bytes
  have hr := B.returns
  have hts0 := atoms_spec (ws := w_P_withAbove) B.pre
  have hts : ∀ w ∈ sx_gw, w.before _ s = true := fun w h => hts0 w (List.mem_cons_of_mem _ h)
  have hown : s.vm.findClass R_P = some m.cls := findClass_of_methodNamed B.named
  have hlocks := B.notSynchronized
  have hl := lv_entry ([.ref o, .long w]) (n := 6) (Nat.le_of_ble_eq_true rfl)
  rw [lg_entry_eq]
  generalize (lg_sl ([.ref o, .long w]) ++ List.replicate (6 - (lg_sl ([.ref o, .long w])).length) Slot.unset).toArray = ls at hl ⊢
  have hl : lv_has ls 6 [(0, .ref o), (1, .long w)] := hl
  refine lv_lconst (v := 0) hx hb d_P_withAbove_0 (by decide +kernel) ?_
  refine lv_lstore_n (lv' := [(3, .long 0), (0, .ref o), (1, .long w)]) hx hb d_P_withAbove_1 rfl hl (by decide) rfl (fun ls hl => ?_)
  refine lv_iconst (v := nI 0) hx hb d_P_withAbove_2 (by decide +kernel) ?_
  refine lv_istore (lv' := [(5, .int (nI 0)), (3, .long 0), (0, .ref o), (1, .long w)]) hx hb d_P_withAbove_3 hl (by decide) rfl (fun ls hl => ?_)
  refine sx_loop (σ := Nat × Int64) (fun x => x.1 ≤ n ∧ ∀ q, q < 64 → sx_bt x.2 q = sx_any (fun k => sx_bt w k && sx_U par k q) x.1) (fun x => [(5, .int (nI x.1)), (3, .long x.2), (0, .ref o), (1, .long w)]) (fun x => n - x.1) (0, 0) (⟨Nat.zero_le _, fun q _ => sx_bt_0 q⟩) (lv_sub hl [0, 1, 2, 3] rfl) (fun x hJ ih ls hl => ?_)
  obtain ⟨i, all⟩ := x
  obtain ⟨hin, hJ⟩ := hJ
  have hl : lv_has ls 6 [(5, .int (nI i)), (3, .long all), (0, .ref o), (1, .long w)] := hl
  have ih_5 := ih
  refine lv_iload hx hb d_P_withAbove_5 (lv_at hl 0 rfl) ?_
  refine lv_aload_n hx hb d_P_withAbove_7 rfl (lv_at hl 2 rfl) ?_
  refine va_get (D := D) (ci := 1) (v := .int (nI n)) (C := R_P) (T := T_P) (N := 5) hx hb hts iw_P hown hK.1 hP 0 rfl rfl 4 (by decide) (hts _ wd_36) (fun _ h9 => h9) rfl d_P_withAbove_8 ?_
  refine lv_icmp_ge (tgt := 39) hx hb d_P_withAbove_11 (by decide) (fun c_1 => ?_) (fun c_1 => ?_)
  · have c_1 : n ≤ i := (nI_leI (by omega) (by omega)).mp c_1
    refine lv_lload_n hx hb d_P_withAbove_39 rfl (lv_at hl 1 rfl) ?_
    exact W.lret (v := all) hx hb hr (fun t ht hW => ⟨all, rfl, (by rw [show n = i by omega]; exact hJ), ht⟩) (fun _ h => by cases h) d_P_withAbove_40
  · have c_1 : i < n := Nat.not_le.mp (fun z => c_1 ((nI_leI (by omega) (by omega)).mpr z))
    refine lv_lload_n hx hb d_P_withAbove_14 rfl (lv_at hl 3 rfl) ?_
    refine lv_iload hx hb d_P_withAbove_15 (lv_at hl 0 rfl) ?_
    refine vp_callSi (va_runSN (As := [.long w, .int (nI i)]) (rest := []) ⟨hx, hb, hml, hown, hts⟩ (k_holds l D cA w i (by omega)) ⟨va_cnB 2 hts (sx_GI wd_110) rfl rfl rfl (hK.2.1 _ wd_108) (hts _ wd_1) (by decide +kernel) ⟨Nat.le_of_ble_eq_true rfl, Nat.le_of_ble_eq_true rfl⟩, hts _ wd_109, trivial⟩ (sx_preS hK (sx_P0 : va_P D vwCl [] s.heap)) rfl rfl hl.1 rfl (lv_room (Nat.le_of_ble_eq_true rfl)) d_P_withAbove_17 ⟨Nat.le_of_ble_eq_true rfl, Nat.le_of_ble_eq_true rfl⟩).run (fun r_3 hr_2 => ?_)
    subst hr_2
    refine lv_if_eq (tgt := 33) hx hb d_P_withAbove_20 (by decide) (fun c_4 => ?_) (fun c_4 => ?_)
    · have c_4 : (sx_bt w i) = false := sx_bI0 c_4
      refine lv_iinc (v := nI (i + 1)) (lv' := [(5, .int (nI (i + 1))), (3, .long all), (0, .ref o), (1, .long w)]) hx hb d_P_withAbove_33 hl (k := 0) rfl (nI_1 i) (by decide) rfl (fun ls hl => ?_)
      refine lv_goto (tgt := 5) hx hb d_P_withAbove_36 (by decide) ?_
      exact ih_5 (i + 1, all) (⟨by omega, sx_above_f c_4 hJ⟩) (by omega) ls (lv_sub hl [0, 1, 2, 3] rfl)
    · have c_4 : (sx_bt w i) = true := sx_bIn c_4
      refine lv_lload_n hx hb d_P_withAbove_23 rfl (lv_at hl 1 rfl) ?_
      refine lv_aload_n hx hb d_P_withAbove_24 rfl (lv_at hl 2 rfl) ?_
      refine va_get (D := D) (ci := 1) (v := .ref a3) (C := R_P) (T := T_P) (N := 5) hx hb hts iw_P hown hK.1 hP 0 rfl rfl 2 (by decide) (hts _ wd_34) (fun _ h9 => h9) rfl d_P_withAbove_25 ?_
      refine lv_iload hx hb d_P_withAbove_28 (lv_at hl 0 rfl) ?_
      refine va_lald hx hb hK.1 hP 3 3 rfl rfl (vp_in_nI (by omega) (by decide)) d_P_withAbove_30 ?_
      refine sx_asl (congrArg ab (nI_clamp (by omega))) ?_
      refine lv_lor hx hb d_P_withAbove_31 ?_
      refine lv_lstore_n (lv' := [(3, .long (all ||| (ab i))), (5, .int (nI i)), (0, .ref o), (1, .long w)]) hx hb d_P_withAbove_32 rfl hl (by decide) rfl (fun ls hl => ?_)
      refine lv_iinc (v := nI (i + 1)) (lv' := [(5, .int (nI (i + 1))), (3, .long (all ||| (ab i))), (0, .ref o), (1, .long w)]) hx hb d_P_withAbove_33 hl (k := 1) rfl (nI_1 i) (by decide) rfl (fun ls hl => ?_)
      refine lv_goto (tgt := 5) hx hb d_P_withAbove_36 (by decide) ?_
      exact ih_5 (i + 1, all ||| ab i) (⟨by omega, sx_above_t hR (by omega) c_4 hJ⟩) (by omega) ls (lv_sub hl [0, 1, 2, 3] rfl)

set_option maxHeartbeats 4000000 in
set_option maxRecDepth 100000 in
theorem k_clash (l : Launch) (D : va_G) (cA : Nat → ClassId) (o a1 a2 a3 a4 : Nat) (n : Nat) (α : sx_A) (ab un : Nat → Int64) (h1 : 1 ≤ n) (hn : n ≤ 60) (hDI : sx_DI n α) (w : Int64) : Met l y_P_hasClash w_P_hasClash ({ frames := 2, cells := 0, slots := 0, locals := 42 }) (sx_Pr D cA [.ref o, .long w] (wP cA o a1 a2 a3 a4 (nI n) (α 1) (α 2) ab un)) (vp_Si (fun r => r = sx_bI (sx_any (sx_clF n α w) n))) 0 0 (fun _ => False) := by
  refine Met.ofW (cc := b_P_hasClash) (maxL := 5) (ret := (some .boolean)) (by decide) rfl ?_
  intro pG eG s m args below meth cG s₁ B hml hv
  obtain ⟨rfl, hP, hK⟩ := hv
  have hx := B.exec
  have hb := B.bytes
  have hr := B.returns
  have hts0 := atoms_spec (ws := w_P_hasClash) B.pre
  have hts : ∀ w ∈ sx_gw, w.before _ s = true := fun w h => hts0 w (List.mem_cons_of_mem _ h)
  have hown : s.vm.findClass R_P = some m.cls := findClass_of_methodNamed B.named
  have hlocks := B.notSynchronized
  have hl := lv_entry ([.ref o, .long w]) (n := 5) (Nat.le_of_ble_eq_true rfl)
  rw [lg_entry_eq]
  generalize (lg_sl ([.ref o, .long w]) ++ List.replicate (5 - (lg_sl ([.ref o, .long w])).length) Slot.unset).toArray = ls at hl ⊢
  have hl : lv_has ls 5 [(0, .ref o), (1, .long w)] := hl
  refine lv_iconst (v := nI 1) hx hb d_P_hasClash_0 (by decide +kernel) ?_
  refine lv_istore_n (lv' := [(3, .int (nI 1)), (0, .ref o), (1, .long w)]) hx hb d_P_hasClash_1 rfl hl (by decide) rfl (fun ls hl => ?_)
  refine sx_loop (σ := Nat) (fun x => 1 ≤ x ∧ x ≤ n ∧ sx_any (sx_clF n α w) x = false) (fun x => [(3, .int (nI x)), (0, .ref o), (1, .long w)]) (fun x => n - x) 1 (⟨by omega, by omega, rfl⟩) (lv_sub hl [0, 1, 2] rfl) (fun x hJ ih ls hl => ?_)
  obtain ⟨i, rfl⟩ : ∃ y, y = x := ⟨_, rfl⟩
  obtain ⟨hi1, hin, hJ⟩ := hJ
  have hl : lv_has ls 5 [(3, .int (nI i)), (0, .ref o), (1, .long w)] := hl
  have ih_2 := ih
  refine lv_iload_n hx hb d_P_hasClash_2 rfl (lv_at hl 0 rfl) ?_
  refine lv_aload_n hx hb d_P_hasClash_3 rfl (lv_at hl 1 rfl) ?_
  refine va_get (D := D) (ci := 1) (v := .int (nI n)) (C := R_P) (T := T_P) (N := 5) hx hb hts iw_P hown hK.1 hP 0 rfl rfl 4 (by decide) (hts _ wd_36) (fun _ h9 => h9) rfl d_P_hasClash_4 ?_
  refine lv_icmp_ge (tgt := 63) hx hb d_P_hasClash_7 (by decide) (fun c_1 => ?_) (fun c_1 => ?_)
  · have c_1 : n ≤ i := (nI_leI (by omega) (by omega)).mp c_1
    refine lv_iconst (v := nI 0) hx hb d_P_hasClash_63 (by decide +kernel) ?_
    exact W.zret (v := nI 0) (ty := .boolean) hx hb hr (by decide +kernel) (fun t ht hW => ⟨nI 0, rfl, sx_b0 (by rw [show n = i by omega]; rw [show n = i by omega] at hJ; exact hJ), ht⟩) (fun _ h => by cases h) d_P_hasClash_64
  · have c_1 : i < n := Nat.not_le.mp (fun z => c_1 ((nI_leI (by omega) (by omega)).mpr z))
    refine lv_lload_n hx hb d_P_hasClash_10 rfl (lv_at hl 2 rfl) ?_
    refine lv_iload_n hx hb d_P_hasClash_11 rfl (lv_at hl 0 rfl) ?_
    refine vp_callSi (va_runSN (As := [.long w, .int (nI i)]) (rest := []) ⟨hx, hb, hml, hown, hts⟩ (k_holds l D cA w i (by omega)) ⟨va_cnB 2 hts (sx_GI wd_110) rfl rfl rfl (hK.2.1 _ wd_108) (hts _ wd_1) (by decide +kernel) ⟨Nat.le_of_ble_eq_true rfl, Nat.le_of_ble_eq_true rfl⟩, hts _ wd_109, trivial⟩ (sx_preS hK (sx_P0 : va_P D vwCl [] s.heap)) rfl rfl hl.1 rfl (lv_room (Nat.le_of_ble_eq_true rfl)) d_P_hasClash_12 ⟨Nat.le_of_ble_eq_true rfl, Nat.le_of_ble_eq_true rfl⟩).run (fun r_3 hr_2 => ?_)
    subst hr_2
    refine lv_if_eq (tgt := 57) hx hb d_P_hasClash_15 (by decide) (fun c_4 => ?_) (fun c_4 => ?_)
    · have c_4 : (sx_bt w i) = false := sx_bI0 c_4
      refine lv_iinc (v := nI (i + 1)) (lv' := [(3, .int (nI (i + 1))), (0, .ref o), (1, .long w)]) hx hb d_P_hasClash_57 hl (k := 0) rfl (nI_1 i) (by decide) rfl (fun ls hl => ?_)
      refine lv_goto (tgt := 2) hx hb d_P_hasClash_60 (by decide) ?_
      exact ih_2 (i + 1) (⟨by omega, by omega, sx_any_s hJ (sx_clF_f1 c_4)⟩) (by omega) ls (lv_sub hl [0, 1, 2] rfl)
    · have c_4 : (sx_bt w i) = true := sx_bIn c_4
      refine lv_aload_n hx hb d_P_hasClash_18 rfl (lv_at hl 1 rfl) ?_
      refine lv_aload_n hx hb d_P_hasClash_19 rfl (lv_at hl 1 rfl) ?_
      refine va_get (D := D) (ci := 1) (v := .ref a1) (C := R_P) (T := T_P) (N := 5) hx hb hts iw_P hown hK.1 hP 0 rfl rfl 0 (by decide) (hts _ wd_32) (fun _ h9 => h9) rfl d_P_hasClash_20 ?_
      refine lv_iload_n hx hb d_P_hasClash_23 rfl (lv_at hl 0 rfl) ?_
      refine va_iald hx hb hK.1 hP 1 0 rfl rfl (vp_in_nI (by omega) (by decide)) d_P_hasClash_24 ?_
      refine sx_asi (congrArg (α 1) (nI_clamp (by omega))) ?_
      refine lv_aload_n hx hb d_P_hasClash_25 rfl (lv_at hl 1 rfl) ?_
      refine va_get (D := D) (ci := 1) (v := .ref a2) (C := R_P) (T := T_P) (N := 5) hx hb hts iw_P hown hK.1 hP 0 rfl rfl 1 (by decide) (hts _ wd_33) (fun _ h9 => h9) rfl d_P_hasClash_26 ?_
      refine lv_iload_n hx hb d_P_hasClash_29 rfl (lv_at hl 0 rfl) ?_
      refine va_cald hx hb hK.1 hP 2 2 rfl rfl (vp_in_nI (by omega) (by decide)) d_P_hasClash_30 ?_
      refine sx_asi (congrArg (α 2) (nI_clamp (by omega))) ?_
      refine lv_bipush (v := nI 32) hx hb d_P_hasClash_31 (by decide +kernel) ?_
      refine lv_ixor hx hb d_P_hasClash_33 ?_
      refine lv_i2c (v := sx_tw (α 2 i)) hx hb d_P_hasClash_34 rfl ?_
      refine vp_callSi (va_runV (As := [.int ((α 1) i), .int (sx_tw (α 2 i))]) (rest := []) ⟨hx, hb, hml, hown, hts⟩ (k_find l D cA o a1 a2 a3 a4 n α ab un (by omega) (by omega) hDI ((α 1) i) (sx_tw (α 2 i))) (cwV 2 hts (sx_GV wd_346 wd_100 wd_101 wd_3 wd_102) rfl rfl rfl (by decide +kernel) ⟨Nat.le_of_ble_eq_true rfl, Nat.le_of_ble_eq_true rfl⟩) (sx_preV hK hP (va_recv hK.1 hP (ci := 1) (q0 := 0) rfl rfl)) rfl rfl hl.1 rfl (lv_room (Nat.le_of_ble_eq_true rfl)) d_P_hasClash_35 ⟨Nat.le_of_ble_eq_true rfl, Nat.le_of_ble_eq_true rfl⟩).run (fun r_6 hr_5 => ?_)
      subst hr_5
      refine lv_istore (lv' := [(4, .int (sx_ch α ((α 1) i) (sx_tw (α 2 i)) n)), (3, .int (nI i)), (0, .ref o), (1, .long w)]) hx hb d_P_hasClash_38 hl (by decide) rfl (fun ls hl => ?_)
      refine lv_iload hx hb d_P_hasClash_40 (lv_at hl 0 rfl) ?_
      refine lv_iconst (v := (-1)) hx hb d_P_hasClash_42 (by decide +kernel) ?_
      refine lv_icmp_eq (tgt := 57) hx hb d_P_hasClash_43 (by decide) (fun c_7 => ?_) (fun c_7 => ?_)
      · refine lv_iinc (v := nI (i + 1)) (lv' := [(3, .int (nI (i + 1))), (4, .int (sx_ch α ((α 1) i) (sx_tw (α 2 i)) n)), (0, .ref o), (1, .long w)]) hx hb d_P_hasClash_57 hl (k := 1) rfl (nI_1 i) (by decide) rfl (fun ls hl => ?_)
        refine lv_goto (tgt := 2) hx hb d_P_hasClash_60 (by decide) ?_
        exact ih_2 (i + 1) (⟨by omega, by omega, sx_any_s hJ (sx_clF_f2 c_7)⟩) (by omega) ls (lv_sub hl [0, 2, 3] rfl)
      · obtain ⟨k, k0, k1, ek⟩ := sx_ch_pos (by omega) c_7
        rw [ek] at hl
        have hl : lv_has ls 5 [(4, .int (nI k)), (3, .int (nI i)), (0, .ref o), (1, .long w)] := hl
        refine lv_lload_n hx hb d_P_hasClash_46 rfl (lv_at hl 3 rfl) ?_
        refine lv_iload hx hb d_P_hasClash_47 (lv_at hl 0 rfl) ?_
        refine vp_callSi (va_runSN (As := [.long w, .int (nI k)]) (rest := []) ⟨hx, hb, hml, hown, hts⟩ (k_holds l D cA w k (by omega)) ⟨va_cnB 2 hts (sx_GI wd_110) rfl rfl rfl (hK.2.1 _ wd_108) (hts _ wd_1) (by decide +kernel) ⟨Nat.le_of_ble_eq_true rfl, Nat.le_of_ble_eq_true rfl⟩, hts _ wd_109, trivial⟩ (sx_preS hK (sx_P0 : va_P D vwCl [] s.heap)) rfl rfl hl.1 rfl (lv_room (Nat.le_of_ble_eq_true rfl)) d_P_hasClash_49 ⟨Nat.le_of_ble_eq_true rfl, Nat.le_of_ble_eq_true rfl⟩).run (fun r_9 hr_8 => ?_)
        subst hr_8
        refine lv_if_eq (tgt := 57) hx hb d_P_hasClash_52 (by decide) (fun c_10 => ?_) (fun c_10 => ?_)
        · have c_10 : (sx_bt w k) = false := sx_bI0 c_10
          refine lv_iinc (v := nI (i + 1)) (lv' := [(3, .int (nI (i + 1))), (4, .int (nI k)), (0, .ref o), (1, .long w)]) hx hb d_P_hasClash_57 hl (k := 1) rfl (nI_1 i) (by decide) rfl (fun ls hl => ?_)
          refine lv_goto (tgt := 2) hx hb d_P_hasClash_60 (by decide) ?_
          exact ih_2 (i + 1) (⟨by omega, by omega, sx_any_s hJ (sx_clF_f3 (by omega) k1 ek c_10)⟩) (by omega) ls (lv_sub hl [0, 2, 3] rfl)
        · have c_10 : (sx_bt w k) = true := sx_bIn c_10
          refine lv_iconst (v := nI 1) hx hb d_P_hasClash_55 (by decide +kernel) ?_
          exact W.zret (v := nI 1) (ty := .boolean) hx hb hr (by decide +kernel) (fun t ht hW => ⟨nI 1, rfl, sx_b1 (sx_any_t.mpr ⟨i, by omega, sx_clF_t (by omega) (by omega) c_4 k1 ek c_10⟩), ht⟩) (fun _ h => by cases h) d_P_hasClash_56

set_option maxHeartbeats 4000000 in
set_option maxRecDepth 100000 in
theorem k_letter (l : Launch) (D : va_G) (cA : Nat → ClassId) (o a1 a2 a3 a4 : Nat) (n : Nat) (α : sx_A) (ab un : Nat → Int64) (h1 : 1 ≤ n) (hn : n ≤ 60) (hLT : sx_LT n α) (pp : Int32) (w : Int64) (ii : Int32) : Met l y_P_letterInFolder w_P_letterInFolder ({ frames := 0, cells := 0, slots := 0, locals := 0 }) (sx_Pr D cA [.ref o, .int pp, .long w, .int ii] (wP cA o a1 a2 a3 a4 (nI n) (α 1) (α 2) ab un)) (vp_Si (fun r => r = sx_pick (fun c => sx_any (sx_lsF n α un pp w c) n) 58 65 ii)) 0 0 (fun _ => False) := by
  refine Met.ofW (cc := b_P_letterInFolder) (maxL := 9) (ret := (some .int)) (by decide) rfl ?_
  intro pG eG s m args below meth cG s₁ B hml hv
  obtain ⟨rfl, hP, hK⟩ := hv
  have hx := B.exec
  have hb := B.bytes
  have hr := B.returns
  have hts0 := atoms_spec (ws := w_P_letterInFolder) B.pre
  have hts : ∀ w ∈ sx_gw, w.before _ s = true := fun w h => hts0 w (List.mem_cons_of_mem _ h)
  have hown : s.vm.findClass R_P = some m.cls := findClass_of_methodNamed B.named
  have hlocks := B.notSynchronized
  have hl := lv_entry ([.ref o, .int pp, .long w, .int ii]) (n := 9) (Nat.le_of_ble_eq_true rfl)
  rw [lg_entry_eq]
  generalize (lg_sl ([.ref o, .int pp, .long w, .int ii]) ++ List.replicate (9 - (lg_sl ([.ref o, .int pp, .long w, .int ii])).length) Slot.unset).toArray = ls at hl ⊢
  have hl : lv_has ls 9 [(0, .ref o), (1, .int pp), (2, .long w), (4, .int ii)] := hl
  refine lv_lconst (v := 0) hx hb d_P_letterInFolder_0 (by decide +kernel) ?_
  refine lv_lstore (lv' := [(5, .long 0), (0, .ref o), (1, .int pp), (2, .long w), (4, .int ii)]) hx hb d_P_letterInFolder_1 hl (by decide) rfl (fun ls hl => ?_)
  refine lv_iconst (v := nI 1) hx hb d_P_letterInFolder_3 (by decide +kernel) ?_
  refine lv_istore (lv' := [(7, .int (nI 1)), (5, .long 0), (0, .ref o), (1, .int pp), (2, .long w), (4, .int ii)]) hx hb d_P_letterInFolder_4 hl (by decide) rfl (fun ls hl => ?_)
  refine sx_loop (σ := Nat × Int64) (fun x => 1 ≤ x.1 ∧ x.1 ≤ n ∧ ∀ b, b < 64 → sx_bt x.2 b = sx_any (sx_lsF n α un pp w (65 + b)) x.1) (fun x => [(7, .int (nI x.1)), (5, .long x.2), (0, .ref o), (1, .int pp), (2, .long w), (4, .int ii)]) (fun x => n - x.1) (1, 0) (⟨by omega, by omega, fun b _ => by rw [sx_bt_0]; rfl⟩) (lv_sub hl [0, 1, 2, 3, 4, 5] rfl) (fun x hJ ih ls hl => ?_)
  obtain ⟨x, codes⟩ := x
  obtain ⟨hx1, hxn, hJ⟩ := hJ
  have hl : lv_has ls 9 [(7, .int (nI x)), (5, .long codes), (0, .ref o), (1, .int pp), (2, .long w), (4, .int ii)] := hl
  have ih_6 := ih
  refine lv_iload hx hb d_P_letterInFolder_6 (lv_at hl 0 rfl) ?_
  refine lv_aload_n hx hb d_P_letterInFolder_8 rfl (lv_at hl 2 rfl) ?_
  refine va_get (D := D) (ci := 1) (v := .int (nI n)) (C := R_P) (T := T_P) (N := 5) hx hb hts iw_P hown hK.1 hP 0 rfl rfl 4 (by decide) (hts _ wd_36) (fun _ h9 => h9) rfl d_P_letterInFolder_9 ?_
  refine lv_icmp_ge (tgt := 63) hx hb d_P_letterInFolder_12 (by decide) (fun c_1 => ?_) (fun c_1 => ?_)
  · have c_1 : n ≤ x := (nI_leI (by omega) (by omega)).mp c_1
    refine lv_iconst (v := nI 0) hx hb d_P_letterInFolder_63 (by decide +kernel) ?_
    refine lv_istore (lv' := [(7, .int (nI 0)), (5, .long codes), (0, .ref o), (1, .int pp), (2, .long w), (4, .int ii)]) hx hb d_P_letterInFolder_64 hl (by decide) rfl (fun ls hl => ?_)
    refine lv_iconst (v := nI 0) hx hb d_P_letterInFolder_66 (by decide +kernel) ?_
    refine lv_istore (lv' := [(8, .int (nI 0)), (7, .int (nI 0)), (5, .long codes), (0, .ref o), (1, .int pp), (2, .long w), (4, .int ii)]) hx hb d_P_letterInFolder_67 hl (by decide) rfl (fun ls hl => ?_)
    have hq : ∀ d, d < 58 → sx_any (sx_lsF n α un pp w (65 + d)) n = sx_bt codes d := fun d hd => by rw [hJ d (by omega), show n = x by omega]
    refine sx_loop (σ := Nat × Nat) (fun x => x.1 ≤ 58 ∧ x.2 ≤ x.1 ∧ sx_pick (fun c => sx_any (sx_lsF n α un pp w c) n) 58 65 ii = sx_pick (fun c => sx_any (sx_lsF n α un pp w c) n) (58 - x.1) (65 + x.1) (ii - nI x.2)) (fun x => [(8, .int (nI x.1)), (7, .int (nI x.2)), (5, .long codes), (0, .ref o), (1, .int pp), (2, .long w), (4, .int ii)]) (fun x => 58 - x.1) (0, 0) (⟨by omega, by omega, by show _ = sx_pick _ 58 65 (ii - nI 0); rw [sx_sub_z]⟩) (lv_sub hl [0, 1, 2, 3, 4, 5, 6] rfl) (fun x hJ ih ls hl => ?_)
    obtain ⟨d, b⟩ := x
    obtain ⟨hd, hbd, hp⟩ := hJ
    have hl : lv_has ls 9 [(8, .int (nI d)), (7, .int (nI b)), (5, .long codes), (0, .ref o), (1, .int pp), (2, .long w), (4, .int ii)] := hl
    have ih_69 := ih
    refine lv_iload hx hb d_P_letterInFolder_69 (lv_at hl 0 rfl) ?_
    refine lv_bipush (v := nI 58) hx hb d_P_letterInFolder_71 (by decide +kernel) ?_
    refine lv_icmp_ge (tgt := 110) hx hb d_P_letterInFolder_73 (by decide) (fun c_2 => ?_) (fun c_2 => ?_)
    · have c_2 : 58 ≤ d := (nI_leI (by decide) (by omega)).mp c_2
      refine lv_iconst (v := nI 0) hx hb d_P_letterInFolder_110 (by decide +kernel) ?_
      exact W.iret (v := nI 0) hx hb hr (fun t ht hW => ⟨nI 0, rfl, (by rw [hp, show 58 - d = 0 by omega]; rfl), ht⟩) (fun _ h => by cases h) d_P_letterInFolder_111
    · have c_2 : d < 58 := Nat.not_le.mp (fun z => c_2 ((nI_leI (by decide) (by omega)).mpr z))
      refine lv_lload hx hb d_P_letterInFolder_76 (lv_at hl 2 rfl) ?_
      refine lv_lconst (v := 1) hx hb d_P_letterInFolder_78 (by decide +kernel) ?_
      refine lv_iload hx hb d_P_letterInFolder_79 (lv_at hl 0 rfl) ?_
      refine lv_lshl (v := sx_on d) hx hb d_P_letterInFolder_81 rfl ?_
      refine lv_land hx hb d_P_letterInFolder_82 ?_
      refine lv_lconst (v := 0) hx hb d_P_letterInFolder_83 (by decide +kernel) ?_
      refine W.lcmp hx hb d_P_letterInFolder_84 ?_
      refine lv_if_eq (tgt := 104) hx hb d_P_letterInFolder_85 (by decide) (fun c_3 => ?_) (fun c_3 => ?_)
      · have c_3 : codes &&& (sx_on d) = 0 := sx_cmp0.mp c_3
        refine lv_iinc (v := nI (d + 1)) (lv' := [(8, .int (nI (d + 1))), (7, .int (nI b)), (5, .long codes), (0, .ref o), (1, .int pp), (2, .long w), (4, .int ii)]) hx hb d_P_letterInFolder_104 hl (k := 0) rfl (nI_1 d) (by decide) rfl (fun ls hl => ?_)
        refine lv_goto (tgt := 69) hx hb d_P_letterInFolder_107 (by decide) ?_
        exact ih_69 (d + 1, b) (⟨by omega, by omega, by rw [hp, sx_pick_step (by omega), hq d (by omega), (sx_holds (by omega)).mp c_3]; rfl⟩) (by omega) ls (lv_sub hl [0, 1, 2, 3, 4, 5, 6] rfl)
      · have c_3 : ¬ (codes &&& (sx_on d)) = 0 := fun z => c_3 (sx_cmp0.mpr z)
        refine lv_iload hx hb d_P_letterInFolder_88 (lv_at hl 1 rfl) ?_
        refine lv_iload hx hb d_P_letterInFolder_90 (lv_at hl 6 rfl) ?_
        refine lv_icmp_ne (tgt := 101) hx hb d_P_letterInFolder_92 (by decide) (fun c_4 => ?_) (fun c_4 => ?_)
        · refine lv_iinc (v := nI (b + 1)) (lv' := [(7, .int (nI (b + 1))), (8, .int (nI d)), (5, .long codes), (0, .ref o), (1, .int pp), (2, .long w), (4, .int ii)]) hx hb d_P_letterInFolder_101 hl (k := 1) rfl (nI_1 b) (by decide) rfl (fun ls hl => ?_)
          refine lv_iinc (v := nI (d + 1)) (lv' := [(8, .int (nI (d + 1))), (7, .int (nI (b + 1))), (5, .long codes), (0, .ref o), (1, .int pp), (2, .long w), (4, .int ii)]) hx hb d_P_letterInFolder_104 hl (k := 1) rfl (nI_1 d) (by decide) rfl (fun ls hl => ?_)
          refine lv_goto (tgt := 69) hx hb d_P_letterInFolder_107 (by decide) ?_
          exact ih_69 (d + 1, b + 1) (⟨by omega, by omega, by rw [hp, sx_pick_step (by omega), hq d (by omega), sx_holdsN (by omega) c_3, cond_true, if_neg (fun z => c_4 (sx_sub_0.mp z)), sx_sub1]⟩) (by omega) ls (lv_sub hl [0, 1, 2, 3, 4, 5, 6] rfl)
        · refine lv_bipush (v := nI 65) hx hb d_P_letterInFolder_95 (by decide +kernel) ?_
          refine lv_iload hx hb d_P_letterInFolder_97 (lv_at hl 0 rfl) ?_
          refine lv_iadd hx hb d_P_letterInFolder_99 ?_
          refine sx_asi (y := nI (65 + d)) (nI_add 65 d) ?_
          exact W.iret (v := nI (65 + d)) hx hb hr (fun t ht hW => ⟨nI (65 + d), rfl, (by rw [hp, sx_pick_step (by omega), hq d (by omega), sx_holdsN (by omega) c_3, cond_true, if_pos (sx_sub_0.mpr c_4)]), ht⟩) (fun _ h => by cases h) d_P_letterInFolder_100
  · have c_1 : x < n := Nat.not_le.mp (fun z => c_1 ((nI_leI (by omega) (by omega)).mpr z))
    refine lv_aload_n hx hb d_P_letterInFolder_15 rfl (lv_at hl 2 rfl) ?_
    refine va_get (D := D) (ci := 1) (v := .ref a1) (C := R_P) (T := T_P) (N := 5) hx hb hts iw_P hown hK.1 hP 0 rfl rfl 0 (by decide) (hts _ wd_32) (fun _ h9 => h9) rfl d_P_letterInFolder_16 ?_
    refine lv_iload hx hb d_P_letterInFolder_19 (lv_at hl 0 rfl) ?_
    refine va_iald hx hb hK.1 hP 1 0 rfl rfl (vp_in_nI (by omega) (by decide)) d_P_letterInFolder_21 ?_
    refine sx_asi (congrArg (α 1) (nI_clamp (by omega))) ?_
    refine lv_iload_n hx hb d_P_letterInFolder_22 rfl (lv_at hl 3 rfl) ?_
    refine lv_icmp_ne (tgt := 57) hx hb d_P_letterInFolder_23 (by decide) (fun c_5 => ?_) (fun c_5 => ?_)
    · refine lv_iinc (v := nI (x + 1)) (lv' := [(7, .int (nI (x + 1))), (5, .long codes), (0, .ref o), (1, .int pp), (2, .long w), (4, .int ii)]) hx hb d_P_letterInFolder_57 hl (k := 0) rfl (nI_1 x) (by decide) rfl (fun ls hl => ?_)
      refine lv_goto (tgt := 6) hx hb d_P_letterInFolder_60 (by decide) ?_
      exact ih_6 (x + 1, codes) (⟨by omega, by omega, sx_ls_no (Or.inl c_5) hJ⟩) (by omega) ls (lv_sub hl [0, 1, 2, 3, 4, 5] rfl)
    · refine lv_aload_n hx hb d_P_letterInFolder_26 rfl (lv_at hl 2 rfl) ?_
      refine va_get (D := D) (ci := 1) (v := .ref a4) (C := R_P) (T := T_P) (N := 5) hx hb hts iw_P hown hK.1 hP 0 rfl rfl 3 (by decide) (hts _ wd_35) (fun _ h9 => h9) rfl d_P_letterInFolder_27 ?_
      refine lv_iload hx hb d_P_letterInFolder_30 (lv_at hl 0 rfl) ?_
      refine va_lald hx hb hK.1 hP 4 3 rfl rfl (vp_in_nI (by omega) (by decide)) d_P_letterInFolder_32 ?_
      refine sx_asl (congrArg un (nI_clamp (by omega))) ?_
      refine lv_lload_n hx hb d_P_letterInFolder_33 rfl (lv_at hl 4 rfl) ?_
      refine lv_land hx hb d_P_letterInFolder_34 ?_
      refine lv_lconst (v := 0) hx hb d_P_letterInFolder_35 (by decide +kernel) ?_
      refine W.lcmp hx hb d_P_letterInFolder_36 ?_
      refine lv_if_eq (tgt := 57) hx hb d_P_letterInFolder_37 (by decide) (fun c_6 => ?_) (fun c_6 => ?_)
      · have c_6 : (un x) &&& w = 0 := sx_cmp0.mp c_6
        refine lv_iinc (v := nI (x + 1)) (lv' := [(7, .int (nI (x + 1))), (5, .long codes), (0, .ref o), (1, .int pp), (2, .long w), (4, .int ii)]) hx hb d_P_letterInFolder_57 hl (k := 0) rfl (nI_1 x) (by decide) rfl (fun ls hl => ?_)
        refine lv_goto (tgt := 6) hx hb d_P_letterInFolder_60 (by decide) ?_
        exact ih_6 (x + 1, codes) (⟨by omega, by omega, sx_ls_no (Or.inr c_6) hJ⟩) (by omega) ls (lv_sub hl [0, 1, 2, 3, 4, 5] rfl)
      · have c_6 : ¬ ((un x) &&& w) = 0 := fun z => c_6 (sx_cmp0.mpr z)
        refine lv_lload hx hb d_P_letterInFolder_40 (lv_at hl 1 rfl) ?_
        refine lv_lconst (v := 1) hx hb d_P_letterInFolder_42 (by decide +kernel) ?_
        refine lv_aload_n hx hb d_P_letterInFolder_43 rfl (lv_at hl 2 rfl) ?_
        refine va_get (D := D) (ci := 1) (v := .ref a2) (C := R_P) (T := T_P) (N := 5) hx hb hts iw_P hown hK.1 hP 0 rfl rfl 1 (by decide) (hts _ wd_33) (fun _ h9 => h9) rfl d_P_letterInFolder_44 ?_
        refine lv_iload hx hb d_P_letterInFolder_47 (lv_at hl 0 rfl) ?_
        refine va_cald hx hb hK.1 hP 2 2 rfl rfl (vp_in_nI (by omega) (by decide)) d_P_letterInFolder_49 ?_
        refine sx_asi (congrArg (α 2) (nI_clamp (by omega))) ?_
        obtain ⟨c, ⟨hc, hc2⟩, ec⟩ := sx_isL_nat (hLT x (by omega) (by omega))
        refine sx_asi ec ?_
        refine lv_bipush (v := nI 65) hx hb d_P_letterInFolder_50 (by decide +kernel) ?_
        refine lv_isub hx hb d_P_letterInFolder_52 ?_
        refine sx_asi (y := nI (c - 65)) (pk_sub (by omega)) ?_
        refine lv_lshl (v := sx_on (c - 65)) hx hb d_P_letterInFolder_53 rfl ?_
        refine lv_lor hx hb d_P_letterInFolder_54 ?_
        refine lv_lstore (lv' := [(5, .long (codes ||| (sx_on (c - 65)))), (7, .int (nI x)), (0, .ref o), (1, .int pp), (2, .long w), (4, .int ii)]) hx hb d_P_letterInFolder_55 hl (by decide) rfl (fun ls hl => ?_)
        refine lv_iinc (v := nI (x + 1)) (lv' := [(7, .int (nI (x + 1))), (5, .long (codes ||| (sx_on (c - 65)))), (0, .ref o), (1, .int pp), (2, .long w), (4, .int ii)]) hx hb d_P_letterInFolder_57 hl (k := 1) rfl (nI_1 x) (by decide) rfl (fun ls hl => ?_)
        refine lv_goto (tgt := 6) hx hb d_P_letterInFolder_60 (by decide) ?_
        exact ih_6 (x + 1, codes ||| sx_on (c - 65)) (⟨by omega, by omega, sx_ls_yes (by omega) c_5 c_6 hc hc2 ec hJ⟩) (by omega) ls (lv_sub hl [0, 1, 2, 3, 4, 5] rfl)

set_option maxHeartbeats 4000000 in
set_option maxRecDepth 100000 in
theorem k_taken (l : Launch) (D : va_G) (cA : Nat → ClassId) (o a1 : Nat) (v : Nat → Int32) (f lk : Int64) : Met l y_S_taken w_S_taken ({ frames := 0, cells := 0, slots := 0, locals := 0 }) (sx_Pr D cA [.ref o] (wS cA o a1 v f lk)) (vp_Sl (fun r => r = f ||| lk)) 0 0 (fun _ => False) := by
  refine Met.ofW (cc := b_S_taken) (maxL := 1) (ret := (some .long)) (by decide) rfl ?_
  intro pG eG s m args below meth cG s₁ B hml hv
  obtain ⟨rfl, hP, hK⟩ := hv
  have hx := B.exec
  have hb := B.bytes
  have hr := B.returns
  have hts0 := atoms_spec (ws := w_S_taken) B.pre
  have hts : ∀ w ∈ sx_gw, w.before _ s = true := fun w h => hts0 w (List.mem_cons_of_mem _ h)
  have hown : s.vm.findClass R_S = some m.cls := findClass_of_methodNamed B.named
  have hlocks := B.notSynchronized
  have hl := lv_entry ([.ref o]) (n := 1) (Nat.le_of_ble_eq_true rfl)
  rw [lg_entry_eq]
  generalize (lg_sl ([.ref o]) ++ List.replicate (1 - (lg_sl ([.ref o])).length) Slot.unset).toArray = ls at hl ⊢
  have hl : lv_has ls 1 [(0, .ref o)] := hl
  refine lv_aload_n hx hb d_S_taken_0 rfl (lv_at hl 0 rfl) ?_
  refine va_get (D := D) (ci := 2) (v := .long f) (C := R_S) (T := T_S) (N := 3) hx hb hts iw_S hown hK.1 hP 0 rfl rfl 1 (by decide) (hts _ wd_58) (fun _ h9 => h9) rfl d_S_taken_1 ?_
  refine lv_aload_n hx hb d_S_taken_4 rfl (lv_at hl 0 rfl) ?_
  refine va_get (D := D) (ci := 2) (v := .long lk) (C := R_S) (T := T_S) (N := 3) hx hb hts iw_S hown hK.1 hP 0 rfl rfl 2 (by decide) (hts _ wd_59) (fun _ h9 => h9) rfl d_S_taken_5 ?_
  refine lv_lor hx hb d_S_taken_8 ?_
  exact W.lret (v := f ||| lk) hx hb hr (fun t ht hW => ⟨f ||| lk, rfl, rfl, ht⟩) (fun _ h => by cases h) d_S_taken_9

set_option maxHeartbeats 4000000 in
set_option maxRecDepth 100000 in
theorem k_away (l : Launch) (D : va_G) (cA : Nat → ClassId) (sz : Nat) (o a1 : Nat) (v : Nat → Int32) (f lk : Int64) (j : Nat) : Met l y_S_takeAway w_S_takeAway ({ frames := 1, cells := 0, slots := 0, locals := 20 }) (sx_Pw D cA [.ref o, .int (nI j)] (wS cA o a1 v f lk) sz) (va_Qv (fun (_ : Unit) => True) (sx_Bw D (wS cA o a1 v f lk) sz (fun _ => wS cA o a1 v (f &&& (sx_on j ^^^ (-1))) (lk &&& (sx_on j ^^^ (-1))))) (va_A (wS cA o a1 v f lk) sz)) 0 0 (va_A (wS cA o a1 v f lk) sz) := by
  refine Met.ofW (cc := b_S_takeAway) (maxL := 2) (ret := none) (by decide) rfl ?_
  intro pG eG s m args below meth cG s₁ B hml hv
  obtain ⟨rfl, hsz, hP, hK, hD0⟩ := hv
  have hx := B.exec
  have hb := B.bytes
  have hr := B.returns
  have hts0 := atoms_spec (ws := w_S_takeAway) B.pre
  have hts : ∀ w ∈ sx_gw, w.before _ s = true := fun w h => hts0 w (List.mem_cons_of_mem _ h)
  have hown : s.vm.findClass R_S = some m.cls := findClass_of_methodNamed B.named
  have hlocks := B.notSynchronized
  subst hsz
  have hD := hD0.self (sz := s.heap.size)
  generalize hAe : va_A (wS cA o a1 v f lk) s.heap.size = A at hD ⊢
  have hA : ∀ q : Nat, s.heap.size ≤ q → A q := fun q h => by rw [← hAe]; exact Or.inr h
  have hS : va_S A s.heap s.heap [] := va_S.rf
  have hl := lv_entry ([.ref o, .int (nI j)]) (n := 2) (Nat.le_of_ble_eq_true rfl)
  rw [lg_entry_eq]
  generalize (lg_sl ([.ref o, .int (nI j)]) ++ List.replicate (2 - (lg_sl ([.ref o, .int (nI j)])).length) Slot.unset).toArray = ls at hl ⊢
  have hl : lv_has ls 2 [(0, .ref o), (1, .int (nI j))] := hl
  refine lv_aload_n hx hb d_S_takeAway_0 rfl (lv_at hl 0 rfl) ?_
  refine lv_dup hx hb d_S_takeAway_1 rfl ?_
  refine va_get (D := D) (ci := 2) (v := .long f) (C := R_S) (T := T_S) (N := 3) hx hb hts iw_S hown hK.1 hP 0 rfl rfl 1 (by decide) (hts _ wd_58) (fun _ h9 => h9) rfl d_S_takeAway_2 ?_
  refine lv_iload_n hx hb d_S_takeAway_5 rfl (lv_at hl 1 rfl) ?_
  refine vp_callSl (va_runSN (As := [.int (nI j)]) (rest := [.long f, .ref o]) ⟨hx, hb, hml, hown, hts⟩ (k_only l D cA j) ⟨va_cnB 1 hts (sx_GI wd_31) rfl rfl rfl (hK.2.1 _ wd_129) (hts _ wd_1) (by decide +kernel) ⟨Nat.le_of_ble_eq_true rfl, Nat.le_of_ble_eq_true rfl⟩, hts _ wd_30, trivial⟩ (sx_preS hK (sx_P0 : va_P D vwCl [] s.heap)) rfl rfl hl.1 rfl (lv_room (Nat.le_of_ble_eq_true rfl)) d_S_takeAway_6 ⟨Nat.le_of_ble_eq_true rfl, Nat.le_of_ble_eq_true rfl⟩).run (fun r_2 hr_1 => ?_)
  subst hr_1
  refine lv_ldc2 (own := R_S) (v := (-1)) hx hb hown (hts _ wd_130) d_S_takeAway_9 ?_
  refine lv_lxor hx hb d_S_takeAway_12 ?_
  refine lv_land hx hb d_S_takeAway_13 ?_
  refine va_put (D := D) (ci := 2) (v := .long (f &&& ((sx_on j) ^^^ (-1)))) (ty := .long) (C := R_S) (T := T_S) (N := 3) hx hb hts iw_S t_S o_S n_S hown hK.1 hP hD hS 0 rfl rfl 1 (by decide) (hts _ wd_58) (fun _ h9 => h9) rfl (by decide +kernel) rfl rfl (Nat.le_of_ble_eq_true rfl) d_S_takeAway_14 (fun H locs hP hD hS => ?_)
  have hP : va_P D vwCl (wS cA o a1 v (f &&& ((sx_on j) ^^^ (-1))) lk) H := hP
  have hD : va_D A (wS cA o a1 v (f &&& ((sx_on j) ^^^ (-1))) lk) := hD
  refine lv_aload_n hx hb d_S_takeAway_17 rfl (lv_at hl 0 rfl) ?_
  refine lv_dup hx hb d_S_takeAway_18 rfl ?_
  refine va_get (D := D) (ci := 2) (v := .long lk) (C := R_S) (T := T_S) (N := 3) hx hb hts iw_S hown hK.1 hP 0 rfl rfl 2 (by decide) (hts _ wd_59) (fun _ h9 => h9) rfl d_S_takeAway_19 ?_
  refine lv_iload_n hx hb d_S_takeAway_22 rfl (lv_at hl 1 rfl) ?_
  refine vp_callSl (va_runSN (As := [.int (nI j)]) (rest := [.long lk, .ref o]) ⟨hx, hb, hml, hown, hts⟩ (k_only l D cA j) ⟨va_cnB 1 hts (sx_GI wd_31) rfl rfl rfl (hK.2.1 _ wd_129) (hts _ wd_1) (by decide +kernel) ⟨Nat.le_of_ble_eq_true rfl, Nat.le_of_ble_eq_true rfl⟩, hts _ wd_30, trivial⟩ (sx_preS hK (sx_P0 : va_P D vwCl [] H)) rfl rfl hl.1 rfl (lv_room (Nat.le_of_ble_eq_true rfl)) d_S_takeAway_23 ⟨Nat.le_of_ble_eq_true rfl, Nat.le_of_ble_eq_true rfl⟩).run (fun r_4 hr_3 => ?_)
  subst hr_3
  refine lv_ldc2 (own := R_S) (v := (-1)) hx hb hown (hts _ wd_130) d_S_takeAway_26 ?_
  refine lv_lxor hx hb d_S_takeAway_29 ?_
  refine lv_land hx hb d_S_takeAway_30 ?_
  refine va_put (D := D) (ci := 2) (v := .long (lk &&& ((sx_on j) ^^^ (-1)))) (ty := .long) (C := R_S) (T := T_S) (N := 3) hx hb hts iw_S t_S o_S n_S hown hK.1 hP hD hS 0 rfl rfl 2 (by decide) (hts _ wd_59) (fun _ h9 => h9) rfl (by decide +kernel) rfl rfl (Nat.le_of_ble_eq_true rfl) d_S_takeAway_31 (fun H locs hP hD hS => ?_)
  have hP : va_P D vwCl (wS cA o a1 v (f &&& ((sx_on j) ^^^ (-1))) (lk &&& ((sx_on j) ^^^ (-1)))) H := hP
  have hD : va_D A (wS cA o a1 v (f &&& ((sx_on j) ^^^ (-1))) (lk &&& ((sx_on j) ^^^ (-1)))) := hD
  have hP9 : va_P D vwCl (wS cA o a1 v (f &&& (sx_on j ^^^ (-1))) (lk &&& (sx_on j ^^^ (-1)))) H := hP
  have hD9 : va_D A (wS cA o a1 v (f &&& (sx_on j ^^^ (-1))) (lk &&& (sx_on j ^^^ (-1)))) := hD
  exact W.vret hx hb hr (fun t ht hW => ⟨⟨(), rfl, trivial, by rw [ht]; exact hP9, by rw [hAe]; exact hD9⟩, hS.F ht⟩) hS.2.2 d_S_takeAway_34

set_option maxHeartbeats 4000000 in
set_option maxRecDepth 100000 in
theorem k_put (l : Launch) (D : va_G) (cA : Nat → ClassId) (sz : Nat) (o a1 : Nat) (v : Nat → Int32) (f lk : Int64) (j : Nat) (hj : j < 60) (ct : Int32) : Met l y_S_putFile w_S_putFile ({ frames := 2, cells := 0, slots := 0, locals := 41 }) (sx_Pw D cA [.ref o, .int (nI j), .int ct] (wS cA o a1 v f lk) sz) (va_Qv (fun (_ : Unit) => True) (sx_Bw D (wS cA o a1 v f lk) sz (fun _ => wS cA o a1 (upd v j ct) ((f &&& (sx_on j ^^^ (-1))) ||| sx_on j) (lk &&& (sx_on j ^^^ (-1))))) (va_A (wS cA o a1 v f lk) sz)) 0 0 (va_A (wS cA o a1 v f lk) sz) := by
  refine Met.ofW (cc := b_S_putFile) (maxL := 3) (ret := none) (by decide) rfl ?_
  intro pG eG s m args below meth cG s₁ B hml hv
  obtain ⟨rfl, hsz, hP, hK, hD0⟩ := hv
  have hx := B.exec
  have hb := B.bytes
  have hr := B.returns
  have hts0 := atoms_spec (ws := w_S_putFile) B.pre
  have hts : ∀ w ∈ sx_gw, w.before _ s = true := fun w h => hts0 w (List.mem_cons_of_mem _ h)
  have hown : s.vm.findClass R_S = some m.cls := findClass_of_methodNamed B.named
  have hlocks := B.notSynchronized
  subst hsz
  have hD := hD0.self (sz := s.heap.size)
  generalize hAe : va_A (wS cA o a1 v f lk) s.heap.size = A at hD ⊢
  have hA : ∀ q : Nat, s.heap.size ≤ q → A q := fun q h => by rw [← hAe]; exact Or.inr h
  have hS : va_S A s.heap s.heap [] := va_S.rf
  have hl := lv_entry ([.ref o, .int (nI j), .int ct]) (n := 3) (Nat.le_of_ble_eq_true rfl)
  rw [lg_entry_eq]
  generalize (lg_sl ([.ref o, .int (nI j), .int ct]) ++ List.replicate (3 - (lg_sl ([.ref o, .int (nI j), .int ct])).length) Slot.unset).toArray = ls at hl ⊢
  have hl : lv_has ls 3 [(0, .ref o), (1, .int (nI j)), (2, .int ct)] := hl
  refine lv_iload_n hx hb d_S_putFile_0 rfl (lv_at hl 1 rfl) ?_
  refine vp_callSi (va_runS (As := [.int (nI j)]) (rest := []) ⟨hx, hb, hml, hown, hts⟩ (k_canHold l D cA (nI j)) (va_cwS 1 hts (sx_GS wd_135 wd_136 wd_4 wd_137) rfl rfl rfl (by decide +kernel) ⟨Nat.le_of_ble_eq_true rfl, Nat.le_of_ble_eq_true rfl⟩) (sx_preS hK (sx_P0 : va_P D vwCl [] s.heap)) rfl rfl hl.1 rfl (lv_room (Nat.le_of_ble_eq_true rfl)) d_S_putFile_1 ⟨Nat.le_of_ble_eq_true rfl, Nat.le_of_ble_eq_true rfl⟩).run (fun r_2 hr_1 => ?_)
  rw [sx_has_nI (by decide) (by omega)] at hr_1
  subst hr_1
  refine lv_if_eq (tgt := 32) hx hb d_S_putFile_4 (by decide) (fun c_3 => ?_) (fun c_3 => ?_)
  · exact absurd c_3 (by decide)
  · refine lv_aload_n hx hb d_S_putFile_7 rfl (lv_at hl 0 rfl) ?_
    refine lv_iload_n hx hb d_S_putFile_8 rfl (lv_at hl 1 rfl) ?_
    refine sx_callv (wr := []) (va_runV (As := [.int (nI j)]) (rest := []) ⟨hx, hb, hml, hown, hts⟩ (k_away l D cA s.heap.size o a1 v f lk j) (cwV 1 hts (sx_GV wd_138 wd_126 wd_127 wd_4 wd_128) rfl rfl rfl (by decide +kernel) ⟨Nat.le_of_ble_eq_true rfl, Nat.le_of_ble_eq_true rfl⟩) (sx_preVw hK hP hD (va_recv hK.1 hP (ci := 2) (q0 := 0) rfl rfl)) rfl rfl hl.1 rfl (lv_room (Nat.le_of_ble_eq_true rfl)) d_S_putFile_9 ⟨Nat.le_of_ble_eq_true rfl, Nat.le_of_ble_eq_true rfl⟩) hP hD hS hA [0, 1] [] rfl rfl (by decide) (by decide) (fun u_6 H locs hr_4 hP hD hS => ?_)
    have hP : va_P D vwCl (wS cA o a1 v (f &&& (sx_on j ^^^ (-1))) (lk &&& (sx_on j ^^^ (-1)))) H := hP.sub [0, 1] rfl
    have hD : va_D A (wS cA o a1 v (f &&& (sx_on j ^^^ (-1))) (lk &&& (sx_on j ^^^ (-1)))) := hD.sub [0, 1] (by decide) rfl
    refine lv_aload_n hx hb d_S_putFile_12 rfl (lv_at hl 0 rfl) ?_
    refine lv_dup hx hb d_S_putFile_13 rfl ?_
    refine va_get (D := D) (ci := 2) (v := .long (f &&& (sx_on j ^^^ (-1)))) (C := R_S) (T := T_S) (N := 3) hx hb hts iw_S hown hK.1 hP 0 rfl rfl 1 (by decide) (hts _ wd_58) (fun _ h9 => h9) rfl d_S_putFile_14 ?_
    refine lv_iload_n hx hb d_S_putFile_17 rfl (lv_at hl 1 rfl) ?_
    refine vp_callSl (va_runSN (As := [.int (nI j)]) (rest := [.long (f &&& (sx_on j ^^^ (-1))), .ref o]) ⟨hx, hb, hml, hown, hts⟩ (k_only l D cA j) ⟨va_cnB 1 hts (sx_GI wd_31) rfl rfl rfl (hK.2.1 _ wd_129) (hts _ wd_1) (by decide +kernel) ⟨Nat.le_of_ble_eq_true rfl, Nat.le_of_ble_eq_true rfl⟩, hts _ wd_30, trivial⟩ (sx_preS hK (sx_P0 : va_P D vwCl [] H)) rfl rfl hl.1 rfl (lv_room (Nat.le_of_ble_eq_true rfl)) d_S_putFile_18 ⟨Nat.le_of_ble_eq_true rfl, Nat.le_of_ble_eq_true rfl⟩).run (fun r_8 hr_7 => ?_)
    subst hr_7
    refine lv_lor hx hb d_S_putFile_21 ?_
    refine va_put (D := D) (ci := 2) (v := .long ((f &&& (sx_on j ^^^ (-1))) ||| (sx_on j))) (ty := .long) (C := R_S) (T := T_S) (N := 3) hx hb hts iw_S t_S o_S n_S hown hK.1 hP hD hS 0 rfl rfl 1 (by decide) (hts _ wd_58) (fun _ h9 => h9) rfl (by decide +kernel) rfl rfl (Nat.le_of_ble_eq_true rfl) d_S_putFile_22 (fun H locs hP hD hS => ?_)
    have hP : va_P D vwCl (wS cA o a1 v ((f &&& (sx_on j ^^^ (-1))) ||| (sx_on j)) (lk &&& (sx_on j ^^^ (-1)))) H := hP
    have hD : va_D A (wS cA o a1 v ((f &&& (sx_on j ^^^ (-1))) ||| (sx_on j)) (lk &&& (sx_on j ^^^ (-1)))) := hD
    refine lv_aload_n hx hb d_S_putFile_25 rfl (lv_at hl 0 rfl) ?_
    refine va_get (D := D) (ci := 2) (v := .ref a1) (C := R_S) (T := T_S) (N := 3) hx hb hts iw_S hown hK.1 hP 0 rfl rfl 0 (by decide) (hts _ wd_57) (fun _ h9 => h9) rfl d_S_putFile_26 ?_
    refine lv_iload_n hx hb d_S_putFile_29 rfl (lv_at hl 1 rfl) ?_
    refine lv_iload_n hx hb d_S_putFile_30 rfl (lv_at hl 2 rfl) ?_
    refine va_iast hx hb hK.1 hP hD hS 1 0 rfl rfl (vp_in_nI (by omega) (by decide)) d_S_putFile_31 (fun H locs hP hD hS => ?_)
    rw [nI_clamp (by omega)] at hP hD
    have hP : va_P D vwCl (wS cA o a1 (upd v j ct) ((f &&& (sx_on j ^^^ (-1))) ||| (sx_on j)) (lk &&& (sx_on j ^^^ (-1)))) H := hP
    have hD : va_D A (wS cA o a1 (upd v j ct) ((f &&& (sx_on j ^^^ (-1))) ||| (sx_on j)) (lk &&& (sx_on j ^^^ (-1)))) := hD
    have hP9 : va_P D vwCl (wS cA o a1 (upd v j ct) ((f &&& (sx_on j ^^^ (-1))) ||| sx_on j) (lk &&& (sx_on j ^^^ (-1)))) H := hP
    have hD9 : va_D A (wS cA o a1 (upd v j ct) ((f &&& (sx_on j ^^^ (-1))) ||| sx_on j) (lk &&& (sx_on j ^^^ (-1)))) := hD
    exact W.vret hx hb hr (fun t ht hW => ⟨⟨(), rfl, trivial, by rw [ht]; exact hP9, by rw [hAe]; exact hD9⟩, hS.F ht⟩) hS.2.2 d_S_putFile_32

set_option maxHeartbeats 4000000 in
set_option maxRecDepth 100000 in
theorem k_lnk (l : Launch) (D : va_G) (cA : Nat → ClassId) (sz : Nat) (o a1 : Nat) (v : Nat → Int32) (f lk : Int64) (j : Nat) (hj : j < 60) (q : Nat) (hq : q < 60) : Met l y_S_putLink w_S_putLink ({ frames := 2, cells := 0, slots := 0, locals := 41 }) (sx_Pw D cA [.ref o, .int (nI j), .int (nI q)] (wS cA o a1 v f lk) sz) (va_Qv (fun (_ : Unit) => True) (sx_Bw D (wS cA o a1 v f lk) sz (fun _ => wS cA o a1 (upd v j (nI q)) (f &&& (sx_on j ^^^ (-1))) ((lk &&& (sx_on j ^^^ (-1))) ||| sx_on j))) (va_A (wS cA o a1 v f lk) sz)) 0 0 (va_A (wS cA o a1 v f lk) sz) := by
  refine Met.ofW (cc := b_S_putLink) (maxL := 3) (ret := none) (by decide) rfl ?_
  intro pG eG s m args below meth cG s₁ B hml hv
  obtain ⟨rfl, hsz, hP, hK, hD0⟩ := hv
  have hx := B.exec
  have hb := B.bytes
  have hr := B.returns
  have hts0 := atoms_spec (ws := w_S_putLink) B.pre
  have hts : ∀ w ∈ sx_gw, w.before _ s = true := fun w h => hts0 w (List.mem_cons_of_mem _ h)
  have hown : s.vm.findClass R_S = some m.cls := findClass_of_methodNamed B.named
  have hlocks := B.notSynchronized
  subst hsz
  have hD := hD0.self (sz := s.heap.size)
  generalize hAe : va_A (wS cA o a1 v f lk) s.heap.size = A at hD ⊢
  have hA : ∀ q : Nat, s.heap.size ≤ q → A q := fun q h => by rw [← hAe]; exact Or.inr h
  have hS : va_S A s.heap s.heap [] := va_S.rf
  have hl := lv_entry ([.ref o, .int (nI j), .int (nI q)]) (n := 3) (Nat.le_of_ble_eq_true rfl)
  rw [lg_entry_eq]
  generalize (lg_sl ([.ref o, .int (nI j), .int (nI q)]) ++ List.replicate (3 - (lg_sl ([.ref o, .int (nI j), .int (nI q)])).length) Slot.unset).toArray = ls at hl ⊢
  have hl : lv_has ls 3 [(0, .ref o), (1, .int (nI j)), (2, .int (nI q))] := hl
  refine lv_iload_n hx hb d_S_putLink_0 rfl (lv_at hl 1 rfl) ?_
  refine vp_callSi (va_runS (As := [.int (nI j)]) (rest := []) ⟨hx, hb, hml, hown, hts⟩ (k_canHold l D cA (nI j)) (va_cwS 1 hts (sx_GS wd_135 wd_136 wd_4 wd_137) rfl rfl rfl (by decide +kernel) ⟨Nat.le_of_ble_eq_true rfl, Nat.le_of_ble_eq_true rfl⟩) (sx_preS hK (sx_P0 : va_P D vwCl [] s.heap)) rfl rfl hl.1 rfl (lv_room (Nat.le_of_ble_eq_true rfl)) d_S_putLink_1 ⟨Nat.le_of_ble_eq_true rfl, Nat.le_of_ble_eq_true rfl⟩).run (fun r_2 hr_1 => ?_)
  rw [sx_has_nI (by decide) (by omega)] at hr_1
  subst hr_1
  refine lv_if_eq (tgt := 39) hx hb d_S_putLink_4 (by decide) (fun c_3 => ?_) (fun c_3 => ?_)
  · exact absurd c_3 (by decide)
  · refine lv_iload_n hx hb d_S_putLink_7 rfl (lv_at hl 2 rfl) ?_
    refine vp_callSi (va_runS (As := [.int (nI q)]) (rest := []) ⟨hx, hb, hml, hown, hts⟩ (k_canHold l D cA (nI q)) (va_cwS 1 hts (sx_GS wd_135 wd_136 wd_4 wd_137) rfl rfl rfl (by decide +kernel) ⟨Nat.le_of_ble_eq_true rfl, Nat.le_of_ble_eq_true rfl⟩) (sx_preS hK (sx_P0 : va_P D vwCl [] s.heap)) rfl rfl hl.1 rfl (lv_room (Nat.le_of_ble_eq_true rfl)) d_S_putLink_8 ⟨Nat.le_of_ble_eq_true rfl, Nat.le_of_ble_eq_true rfl⟩).run (fun r_5 hr_4 => ?_)
    rw [sx_has_nI (by decide) (by omega)] at hr_4
    subst hr_4
    refine lv_if_eq (tgt := 39) hx hb d_S_putLink_11 (by decide) (fun c_6 => ?_) (fun c_6 => ?_)
    · exact absurd c_6 (by decide)
    · refine lv_aload_n hx hb d_S_putLink_14 rfl (lv_at hl 0 rfl) ?_
      refine lv_iload_n hx hb d_S_putLink_15 rfl (lv_at hl 1 rfl) ?_
      refine sx_callv (wr := []) (va_runV (As := [.int (nI j)]) (rest := []) ⟨hx, hb, hml, hown, hts⟩ (k_away l D cA s.heap.size o a1 v f lk j) (cwV 1 hts (sx_GV wd_138 wd_126 wd_127 wd_4 wd_128) rfl rfl rfl (by decide +kernel) ⟨Nat.le_of_ble_eq_true rfl, Nat.le_of_ble_eq_true rfl⟩) (sx_preVw hK hP hD (va_recv hK.1 hP (ci := 2) (q0 := 0) rfl rfl)) rfl rfl hl.1 rfl (lv_room (Nat.le_of_ble_eq_true rfl)) d_S_putLink_16 ⟨Nat.le_of_ble_eq_true rfl, Nat.le_of_ble_eq_true rfl⟩) hP hD hS hA [0, 1] [] rfl rfl (by decide) (by decide) (fun u_9 H locs hr_7 hP hD hS => ?_)
      have hP : va_P D vwCl (wS cA o a1 v (f &&& (sx_on j ^^^ (-1))) (lk &&& (sx_on j ^^^ (-1)))) H := hP.sub [0, 1] rfl
      have hD : va_D A (wS cA o a1 v (f &&& (sx_on j ^^^ (-1))) (lk &&& (sx_on j ^^^ (-1)))) := hD.sub [0, 1] (by decide) rfl
      refine lv_aload_n hx hb d_S_putLink_19 rfl (lv_at hl 0 rfl) ?_
      refine lv_dup hx hb d_S_putLink_20 rfl ?_
      refine va_get (D := D) (ci := 2) (v := .long (lk &&& (sx_on j ^^^ (-1)))) (C := R_S) (T := T_S) (N := 3) hx hb hts iw_S hown hK.1 hP 0 rfl rfl 2 (by decide) (hts _ wd_59) (fun _ h9 => h9) rfl d_S_putLink_21 ?_
      refine lv_iload_n hx hb d_S_putLink_24 rfl (lv_at hl 1 rfl) ?_
      refine vp_callSl (va_runSN (As := [.int (nI j)]) (rest := [.long (lk &&& (sx_on j ^^^ (-1))), .ref o]) ⟨hx, hb, hml, hown, hts⟩ (k_only l D cA j) ⟨va_cnB 1 hts (sx_GI wd_31) rfl rfl rfl (hK.2.1 _ wd_129) (hts _ wd_1) (by decide +kernel) ⟨Nat.le_of_ble_eq_true rfl, Nat.le_of_ble_eq_true rfl⟩, hts _ wd_30, trivial⟩ (sx_preS hK (sx_P0 : va_P D vwCl [] H)) rfl rfl hl.1 rfl (lv_room (Nat.le_of_ble_eq_true rfl)) d_S_putLink_25 ⟨Nat.le_of_ble_eq_true rfl, Nat.le_of_ble_eq_true rfl⟩).run (fun r_11 hr_10 => ?_)
      subst hr_10
      refine lv_lor hx hb d_S_putLink_28 ?_
      refine va_put (D := D) (ci := 2) (v := .long ((lk &&& (sx_on j ^^^ (-1))) ||| (sx_on j))) (ty := .long) (C := R_S) (T := T_S) (N := 3) hx hb hts iw_S t_S o_S n_S hown hK.1 hP hD hS 0 rfl rfl 2 (by decide) (hts _ wd_59) (fun _ h9 => h9) rfl (by decide +kernel) rfl rfl (Nat.le_of_ble_eq_true rfl) d_S_putLink_29 (fun H locs hP hD hS => ?_)
      have hP : va_P D vwCl (wS cA o a1 v (f &&& (sx_on j ^^^ (-1))) ((lk &&& (sx_on j ^^^ (-1))) ||| (sx_on j))) H := hP
      have hD : va_D A (wS cA o a1 v (f &&& (sx_on j ^^^ (-1))) ((lk &&& (sx_on j ^^^ (-1))) ||| (sx_on j))) := hD
      refine lv_aload_n hx hb d_S_putLink_32 rfl (lv_at hl 0 rfl) ?_
      refine va_get (D := D) (ci := 2) (v := .ref a1) (C := R_S) (T := T_S) (N := 3) hx hb hts iw_S hown hK.1 hP 0 rfl rfl 0 (by decide) (hts _ wd_57) (fun _ h9 => h9) rfl d_S_putLink_33 ?_
      refine lv_iload_n hx hb d_S_putLink_36 rfl (lv_at hl 1 rfl) ?_
      refine lv_iload_n hx hb d_S_putLink_37 rfl (lv_at hl 2 rfl) ?_
      refine va_iast hx hb hK.1 hP hD hS 1 0 rfl rfl (vp_in_nI (by omega) (by decide)) d_S_putLink_38 (fun H locs hP hD hS => ?_)
      rw [nI_clamp (by omega)] at hP hD
      have hP : va_P D vwCl (wS cA o a1 (upd v j (nI q)) (f &&& (sx_on j ^^^ (-1))) ((lk &&& (sx_on j ^^^ (-1))) ||| (sx_on j))) H := hP
      have hD : va_D A (wS cA o a1 (upd v j (nI q)) (f &&& (sx_on j ^^^ (-1))) ((lk &&& (sx_on j ^^^ (-1))) ||| (sx_on j))) := hD
      have hP9 : va_P D vwCl (wS cA o a1 (upd v j (nI q)) (f &&& (sx_on j ^^^ (-1))) ((lk &&& (sx_on j ^^^ (-1))) ||| sx_on j)) H := hP
      have hD9 : va_D A (wS cA o a1 (upd v j (nI q)) (f &&& (sx_on j ^^^ (-1))) ((lk &&& (sx_on j ^^^ (-1))) ||| sx_on j)) := hD
      exact W.vret hx hb hr (fun t ht hW => ⟨⟨(), rfl, trivial, by rw [ht]; exact hP9, by rw [hAe]; exact hD9⟩, hS.F ht⟩) hS.2.2 d_S_putLink_39

set_option maxHeartbeats 4000000 in
set_option maxRecDepth 100000 in
theorem k_copy (l : Launch) (D : va_G) (cA : Nat → ClassId) (sz : Nat) (o a1 o2 a2 : Nat) (v : Nat → Int32) (f lk : Int64) (v2 : Nat → Int32) (f2 lk2 : Int64) (w : Int64) : Met l y_S_copyFiles w_S_copyFiles ({ frames := 1, cells := 0, slots := 0, locals := 18 }) (sx_Pw D cA [.ref o, .ref o2, .long w] (wSS cA o a1 o2 a2 v f lk v2 f2 lk2) sz) (va_Qv (fun (_ : Unit) => True) (sx_Bw D (wSS cA o a1 o2 a2 v f lk v2 f2 lk2) sz (fun _ => wSS cA o a1 o2 a2 (va_cpy v2 v 0 0 60) (f2 &&& w) 0 v2 f2 lk2)) (va_A (wSS cA o a1 o2 a2 v f lk v2 f2 lk2) sz)) 0 0 (va_A (wSS cA o a1 o2 a2 v f lk v2 f2 lk2) sz) := by
  refine Met.ofW (cc := b_S_copyFiles) (maxL := 4) (ret := none) (by decide) rfl ?_
  intro pG eG s m args below meth cG s₁ B hml hv
  obtain ⟨rfl, hsz, hP, hK, hD0⟩ := hv
  have hx := B.exec
  have hb := B.bytes
  have hr := B.returns
  have hts0 := atoms_spec (ws := w_S_copyFiles) B.pre
  have hts : ∀ w ∈ sx_gw, w.before _ s = true := fun w h => hts0 w (List.mem_cons_of_mem _ h)
  have hown : s.vm.findClass R_S = some m.cls := findClass_of_methodNamed B.named
  have hlocks := B.notSynchronized
  subst hsz
  have hD := hD0.self (sz := s.heap.size)
  generalize hAe : va_A (wSS cA o a1 o2 a2 v f lk v2 f2 lk2) s.heap.size = A at hD ⊢
  have hA : ∀ q : Nat, s.heap.size ≤ q → A q := fun q h => by rw [← hAe]; exact Or.inr h
  have hS : va_S A s.heap s.heap [] := va_S.rf
  have hl := lv_entry ([.ref o, .ref o2, .long w]) (n := 4) (Nat.le_of_ble_eq_true rfl)
  rw [lg_entry_eq]
  generalize (lg_sl ([.ref o, .ref o2, .long w]) ++ List.replicate (4 - (lg_sl ([.ref o, .ref o2, .long w])).length) Slot.unset).toArray = ls at hl ⊢
  have hl : lv_has ls 4 [(0, .ref o), (1, .ref o2), (2, .long w)] := hl
  refine lv_aload_n hx hb d_S_copyFiles_0 rfl (lv_at hl 0 rfl) ?_
  refine lv_aload_n hx hb d_S_copyFiles_1 rfl (lv_at hl 1 rfl) ?_
  refine va_get (D := D) (ci := 2) (v := .long f2) (C := R_S) (T := T_S) (N := 3) hx hb hts iw_S hown hK.1 hP 2 rfl rfl 1 (by decide) (hts _ wd_58) (fun _ h9 => h9) rfl d_S_copyFiles_2 ?_
  refine lv_lload_n hx hb d_S_copyFiles_5 rfl (lv_at hl 2 rfl) ?_
  refine lv_land hx hb d_S_copyFiles_6 ?_
  refine va_put (D := D) (ci := 2) (v := .long (f2 &&& w)) (ty := .long) (C := R_S) (T := T_S) (N := 3) hx hb hts iw_S t_S o_S n_S hown hK.1 hP hD hS 0 rfl rfl 1 (by decide) (hts _ wd_58) (fun _ h9 => h9) rfl (by decide +kernel) rfl rfl (Nat.le_of_ble_eq_true rfl) d_S_copyFiles_7 (fun H locs hP hD hS => ?_)
  have hP : va_P D vwCl (wSS cA o a1 o2 a2 v (f2 &&& w) lk v2 f2 lk2) H := hP
  have hD : va_D A (wSS cA o a1 o2 a2 v (f2 &&& w) lk v2 f2 lk2) := hD
  refine lv_aload_n hx hb d_S_copyFiles_10 rfl (lv_at hl 0 rfl) ?_
  refine lv_lconst (v := 0) hx hb d_S_copyFiles_11 (by decide +kernel) ?_
  refine va_put (D := D) (ci := 2) (v := .long 0) (ty := .long) (C := R_S) (T := T_S) (N := 3) hx hb hts iw_S t_S o_S n_S hown hK.1 hP hD hS 0 rfl rfl 2 (by decide) (hts _ wd_59) (fun _ h9 => h9) rfl (by decide +kernel) rfl rfl (Nat.le_of_ble_eq_true rfl) d_S_copyFiles_12 (fun H locs hP hD hS => ?_)
  have hP : va_P D vwCl (wSS cA o a1 o2 a2 v (f2 &&& w) 0 v2 f2 lk2) H := hP
  have hD : va_D A (wSS cA o a1 o2 a2 v (f2 &&& w) 0 v2 f2 lk2) := hD
  refine lv_aload_n hx hb d_S_copyFiles_15 rfl (lv_at hl 1 rfl) ?_
  refine va_get (D := D) (ci := 2) (v := .ref a2) (C := R_S) (T := T_S) (N := 3) hx hb hts iw_S hown hK.1 hP 2 rfl rfl 0 (by decide) (hts _ wd_57) (fun _ h9 => h9) rfl d_S_copyFiles_16 ?_
  refine lv_iconst (v := nI 0) hx hb d_S_copyFiles_19 (by decide +kernel) ?_
  refine lv_aload_n hx hb d_S_copyFiles_20 rfl (lv_at hl 0 rfl) ?_
  refine va_get (D := D) (ci := 2) (v := .ref a1) (C := R_S) (T := T_S) (N := 3) hx hb hts iw_S hown hK.1 hP 0 rfl rfl 0 (by decide) (hts _ wd_57) (fun _ h9 => h9) rfl d_S_copyFiles_21 ?_
  refine lv_iconst (v := nI 0) hx hb d_S_copyFiles_24 (by decide +kernel) ?_
  refine lv_bipush (v := nI 60) hx hb d_S_copyFiles_25 (by decide +kernel) ?_
  refine va_copyi hx hb (by rw [hml]; exact hl.1.symm) hown (hts _ wd_253) (hts _ wd_255) (hts _ wd_254) (hts _ wd_7) hK.1 hP hD hS 3 1 0 0 rfl rfl rfl rfl rfl (by decide +kernel) (by decide +kernel) (by decide +kernel) (by decide +kernel) (by decide +kernel) (fun _ _ => rfl) (Nat.le_of_ble_eq_true rfl) (Nat.le_of_ble_eq_true rfl) d_S_copyFiles_27 (fun H locs hP hD hS => ?_)
  have hP : va_P D vwCl (wSS cA o a1 o2 a2 (va_cpy v2 v 0 0 60) (f2 &&& w) 0 v2 f2 lk2) H := hP
  have hD : va_D A (wSS cA o a1 o2 a2 (va_cpy v2 v 0 0 60) (f2 &&& w) 0 v2 f2 lk2) := hD
  have hP9 : va_P D vwCl (wSS cA o a1 o2 a2 (va_cpy v2 v 0 0 60) (f2 &&& w) 0 v2 f2 lk2) H := hP
  have hD9 : va_D A (wSS cA o a1 o2 a2 (va_cpy v2 v 0 0 60) (f2 &&& w) 0 v2 f2 lk2) := hD
  exact W.vret hx hb hr (fun t ht hW => ⟨⟨(), rfl, trivial, by rw [ht]; exact hP9, by rw [hAe]; exact hD9⟩, hS.F ht⟩) hS.2.2 d_S_copyFiles_30

set_option maxHeartbeats 4000000 in
set_option maxRecDepth 100000 in
theorem k_leads (l : Launch) (D : va_G) (cA : Nat → ClassId) (o a1 : Nat) (v : Nat → Int32) (f lk : Int64) (x0 : Int32) : Met l y_S_leadsTo w_S_leadsTo ({ frames := 2, cells := 0, slots := 0, locals := 42 }) (sx_Pr D cA [.ref o, .int x0] (wS cA o a1 v f lk)) (vp_Si (fun r => r = sx_lR v f lk 5 x0)) 0 0 (fun _ => False) := by
  refine Met.ofW (cc := b_S_leadsTo) (maxL := 4) (ret := (some .int)) (by decide) rfl ?_
  intro pG eG s m args below meth cG s₁ B hml hv
  obtain ⟨rfl, hP, hK⟩ := hv
  have hx := B.exec
  have hb := B.bytes
  have hr := B.returns
  have hts0 := atoms_spec (ws := w_S_leadsTo) B.pre
  have hts : ∀ w ∈ sx_gw, w.before _ s = true := fun w h => hts0 w (List.mem_cons_of_mem _ h)
  have hown : s.vm.findClass R_S = some m.cls := findClass_of_methodNamed B.named
  have hlocks := B.notSynchronized
  have hl := lv_entry ([.ref o, .int x0]) (n := 4) (Nat.le_of_ble_eq_true rfl)
  rw [lg_entry_eq]
  generalize (lg_sl ([.ref o, .int x0]) ++ List.replicate (4 - (lg_sl ([.ref o, .int x0])).length) Slot.unset).toArray = ls at hl ⊢
  have hl : lv_has ls 4 [(0, .ref o), (1, .int x0)] := hl
  refine lv_iload_n hx hb d_S_leadsTo_0 rfl (lv_at hl 1 rfl) ?_
  refine lv_istore_n (lv' := [(2, .int x0), (0, .ref o), (1, .int x0)]) hx hb d_S_leadsTo_1 rfl hl (by decide) rfl (fun ls hl => ?_)
  refine lv_iconst (v := nI 0) hx hb d_S_leadsTo_2 (by decide +kernel) ?_
  refine lv_istore_n (lv' := [(3, .int (nI 0)), (2, .int x0), (0, .ref o), (1, .int x0)]) hx hb d_S_leadsTo_3 rfl hl (by decide) rfl (fun ls hl => ?_)
  refine sx_loop (σ := Nat × Int32) (fun x => x.1 ≤ 5 ∧ sx_lR v f lk 5 x0 = sx_lR v f lk (5 - x.1) x.2) (fun x => [(3, .int (nI x.1)), (2, .int x.2), (0, .ref o)]) (fun x => 5 - x.1) (0, x0) (⟨by omega, rfl⟩) (lv_sub hl [0, 1, 2] rfl) (fun x hJ ih ls hl => ?_)
  obtain ⟨k, y⟩ := x
  obtain ⟨hk, hJ⟩ := hJ
  have hl : lv_has ls 4 [(3, .int (nI k)), (2, .int y), (0, .ref o)] := hl
  have ih_4 := ih
  refine lv_iload_n hx hb d_S_leadsTo_4 rfl (lv_at hl 0 rfl) ?_
  refine lv_iconst (v := nI 4) hx hb d_S_leadsTo_5 (by decide +kernel) ?_
  refine lv_icmp_gt (tgt := 62) hx hb d_S_leadsTo_6 (by decide) (fun c_1 => ?_) (fun c_1 => ?_)
  · have c_1 : 4 < k := (nI_ltI (by decide) (by omega)).mp c_1
    refine lv_iconst (v := nI 0) hx hb d_S_leadsTo_62 (by decide +kernel) ?_
    exact W.iret (v := nI 0) hx hb hr (fun t ht hW => ⟨nI 0, rfl, (by rw [hJ, show 5 - k = 0 by omega]; rfl), ht⟩) (fun _ h => by cases h) d_S_leadsTo_63
  · have c_1 : k ≤ 4 := Nat.not_lt.mp (fun z => c_1 ((nI_ltI (by decide) (by omega)).mpr z))
    refine lv_iload_n hx hb d_S_leadsTo_9 rfl (lv_at hl 1 rfl) ?_
    refine vp_callSi (va_runS (As := [.int y]) (rest := []) ⟨hx, hb, hml, hown, hts⟩ (k_canHold l D cA y) (va_cwS 1 hts (sx_GS wd_135 wd_136 wd_4 wd_137) rfl rfl rfl (by decide +kernel) ⟨Nat.le_of_ble_eq_true rfl, Nat.le_of_ble_eq_true rfl⟩) (sx_preS hK (sx_P0 : va_P D vwCl [] s.heap)) rfl rfl hl.1 rfl (lv_room (Nat.le_of_ble_eq_true rfl)) d_S_leadsTo_10 ⟨Nat.le_of_ble_eq_true rfl, Nat.le_of_ble_eq_true rfl⟩).run (fun r_3 hr_2 => ?_)
    subst hr_2
    refine lv_if_ne (tgt := 18) hx hb d_S_leadsTo_13 (by decide) (fun c_4 => ?_) (fun c_4 => ?_)
    · have c_4 : (sx_has 60 y) = true := sx_bIn c_4
      obtain ⟨j, hj, rfl⟩ := sx_has_t (by decide) c_4
      refine lv_aload_n hx hb d_S_leadsTo_18 rfl (lv_at hl 2 rfl) ?_
      refine va_get (D := D) (ci := 2) (v := .long f) (C := R_S) (T := T_S) (N := 3) hx hb hts iw_S hown hK.1 hP 0 rfl rfl 1 (by decide) (hts _ wd_58) (fun _ h9 => h9) rfl d_S_leadsTo_19 ?_
      refine lv_iload_n hx hb d_S_leadsTo_22 rfl (lv_at hl 1 rfl) ?_
      refine vp_callSi (va_runSN (As := [.long f, .int (nI j)]) (rest := []) ⟨hx, hb, hml, hown, hts⟩ (k_holds l D cA f j (by omega)) ⟨va_cnB 2 hts (sx_GI wd_110) rfl rfl rfl (hK.2.1 _ wd_147) (hts _ wd_1) (by decide +kernel) ⟨Nat.le_of_ble_eq_true rfl, Nat.le_of_ble_eq_true rfl⟩, hts _ wd_109, trivial⟩ (sx_preS hK (sx_P0 : va_P D vwCl [] s.heap)) rfl rfl hl.1 rfl (lv_room (Nat.le_of_ble_eq_true rfl)) d_S_leadsTo_23 ⟨Nat.le_of_ble_eq_true rfl, Nat.le_of_ble_eq_true rfl⟩).run (fun r_6 hr_5 => ?_)
      subst hr_5
      refine lv_if_eq (tgt := 36) hx hb d_S_leadsTo_26 (by decide) (fun c_7 => ?_) (fun c_7 => ?_)
      · have c_7 : (sx_bt f j) = false := sx_bI0 c_7
        refine lv_aload_n hx hb d_S_leadsTo_36 rfl (lv_at hl 2 rfl) ?_
        refine va_get (D := D) (ci := 2) (v := .long lk) (C := R_S) (T := T_S) (N := 3) hx hb hts iw_S hown hK.1 hP 0 rfl rfl 2 (by decide) (hts _ wd_59) (fun _ h9 => h9) rfl d_S_leadsTo_37 ?_
        refine lv_iload_n hx hb d_S_leadsTo_40 rfl (lv_at hl 1 rfl) ?_
        refine vp_callSi (va_runSN (As := [.long lk, .int (nI j)]) (rest := []) ⟨hx, hb, hml, hown, hts⟩ (k_holds l D cA lk j (by omega)) ⟨va_cnB 2 hts (sx_GI wd_110) rfl rfl rfl (hK.2.1 _ wd_147) (hts _ wd_1) (by decide +kernel) ⟨Nat.le_of_ble_eq_true rfl, Nat.le_of_ble_eq_true rfl⟩, hts _ wd_109, trivial⟩ (sx_preS hK (sx_P0 : va_P D vwCl [] s.heap)) rfl rfl hl.1 rfl (lv_room (Nat.le_of_ble_eq_true rfl)) d_S_leadsTo_41 ⟨Nat.le_of_ble_eq_true rfl, Nat.le_of_ble_eq_true rfl⟩).run (fun r_9 hr_8 => ?_)
        subst hr_8
        refine lv_if_ne (tgt := 49) hx hb d_S_leadsTo_44 (by decide) (fun c_10 => ?_) (fun c_10 => ?_)
        · have c_10 : (sx_bt lk j) = true := sx_bIn c_10
          refine lv_aload_n hx hb d_S_leadsTo_49 rfl (lv_at hl 2 rfl) ?_
          refine va_get (D := D) (ci := 2) (v := .ref a1) (C := R_S) (T := T_S) (N := 3) hx hb hts iw_S hown hK.1 hP 0 rfl rfl 0 (by decide) (hts _ wd_57) (fun _ h9 => h9) rfl d_S_leadsTo_50 ?_
          refine lv_iload_n hx hb d_S_leadsTo_53 rfl (lv_at hl 1 rfl) ?_
          refine va_iald hx hb hK.1 hP 1 0 rfl rfl (vp_in_nI (by omega) (by decide)) d_S_leadsTo_54 ?_
          refine sx_asi (congrArg v (nI_clamp (by omega))) ?_
          refine lv_istore_n (lv' := [(2, .int (v j)), (3, .int (nI k)), (0, .ref o)]) hx hb d_S_leadsTo_55 rfl hl (by decide) rfl (fun ls hl => ?_)
          refine lv_iinc (v := nI (k + 1)) (lv' := [(3, .int (nI (k + 1))), (2, .int (v j)), (0, .ref o)]) hx hb d_S_leadsTo_56 hl (k := 1) rfl (nI_1 k) (by decide) rfl (fun ls hl => ?_)
          refine lv_goto (tgt := 4) hx hb d_S_leadsTo_59 (by decide) ?_
          exact ih_4 (k + 1, v j) (⟨by omega, by rw [hJ, show 5 - k = (5 - (k + 1)) + 1 by omega, sx_lR_link hj c_7 c_10]⟩) (by omega) ls (lv_sub hl [0, 1, 2] rfl)
        · have c_10 : (sx_bt lk j) = false := sx_bI0 c_10
          refine lv_iconst (v := nI 0) hx hb d_S_leadsTo_47 (by decide +kernel) ?_
          exact W.iret (v := nI 0) hx hb hr (fun t ht hW => ⟨nI 0, rfl, (by rw [hJ]; exact (sx_lR_none hj c_7 c_10).symm), ht⟩) (fun _ h => by cases h) d_S_leadsTo_48
      · have c_7 : (sx_bt f j) = true := sx_bIn c_7
        refine lv_aload_n hx hb d_S_leadsTo_29 rfl (lv_at hl 2 rfl) ?_
        refine va_get (D := D) (ci := 2) (v := .ref a1) (C := R_S) (T := T_S) (N := 3) hx hb hts iw_S hown hK.1 hP 0 rfl rfl 0 (by decide) (hts _ wd_57) (fun _ h9 => h9) rfl d_S_leadsTo_30 ?_
        refine lv_iload_n hx hb d_S_leadsTo_33 rfl (lv_at hl 1 rfl) ?_
        refine va_iald hx hb hK.1 hP 1 0 rfl rfl (vp_in_nI (by omega) (by decide)) d_S_leadsTo_34 ?_
        refine sx_asi (congrArg v (nI_clamp (by omega))) ?_
        exact W.iret (v := v j) hx hb hr (fun t ht hW => ⟨v j, rfl, (by rw [hJ, show 5 - k = (5 - (k + 1)) + 1 by omega]; exact (sx_lR_file hj c_7).symm), ht⟩) (fun _ h => by cases h) d_S_leadsTo_35
    · have c_4 : (sx_has 60 y) = false := sx_bI0 c_4
      refine lv_iconst (v := nI 0) hx hb d_S_leadsTo_16 (by decide +kernel) ?_
      exact W.iret (v := nI 0) hx hb hr (fun t ht hW => ⟨nI 0, rfl, (by rw [hJ]; exact (sx_lR_no c_4).symm), ht⟩) (fun _ h => by cases h) d_S_leadsTo_17

set_option maxHeartbeats 4000000 in
set_option maxRecDepth 100000 in
theorem k_loose (l : Launch) (D : va_G) (cA : Nat → ClassId) (o a1 : Nat) (v : Nat → Int32) (f lk : Int64) (w : Int64) : Met l y_S_hasLooseLink w_S_hasLooseLink ({ frames := 3, cells := 0, slots := 0, locals := 65 }) (sx_Pr D cA [.ref o, .long w] (wS cA o a1 v f lk)) (vp_Si (fun r => r = sx_bI (sx_any (fun p => sx_bt (lk &&& w) p && decide (sx_lR v f lk 5 (nI p) = 0)) 60))) 0 0 (fun _ => False) := by
  refine Met.ofW (cc := b_S_hasLooseLink) (maxL := 4) (ret := (some .boolean)) (by decide) rfl ?_
  intro pG eG s m args below meth cG s₁ B hml hv
  obtain ⟨rfl, hP, hK⟩ := hv
  have hx := B.exec
  have hb := B.bytes
  have hr := B.returns
  have hts0 := atoms_spec (ws := w_S_hasLooseLink) B.pre
  have hts : ∀ w ∈ sx_gw, w.before _ s = true := fun w h => hts0 w (List.mem_cons_of_mem _ h)
  have hown : s.vm.findClass R_S = some m.cls := findClass_of_methodNamed B.named
  have hlocks := B.notSynchronized
  have hl := lv_entry ([.ref o, .long w]) (n := 4) (Nat.le_of_ble_eq_true rfl)
  rw [lg_entry_eq]
  generalize (lg_sl ([.ref o, .long w]) ++ List.replicate (4 - (lg_sl ([.ref o, .long w])).length) Slot.unset).toArray = ls at hl ⊢
  have hl : lv_has ls 4 [(0, .ref o), (1, .long w)] := hl
  refine lv_iconst (v := nI 0) hx hb d_S_hasLooseLink_0 (by decide +kernel) ?_
  refine lv_istore_n (lv' := [(3, .int (nI 0)), (0, .ref o), (1, .long w)]) hx hb d_S_hasLooseLink_1 rfl hl (by decide) rfl (fun ls hl => ?_)
  refine sx_loop (σ := Nat) (fun x => x ≤ 60 ∧ sx_any (fun p => sx_bt (lk &&& w) p && decide (sx_lR v f lk 5 (nI p) = 0)) x = false) (fun x => [(3, .int (nI x)), (0, .ref o), (1, .long w)]) (fun x => 60 - x) 0 (⟨by omega, rfl⟩) (lv_sub hl [0, 1, 2] rfl) (fun x hJ ih ls hl => ?_)
  obtain ⟨i, rfl⟩ : ∃ y, y = x := ⟨_, rfl⟩
  obtain ⟨hi, hJ⟩ := hJ
  have hl : lv_has ls 4 [(3, .int (nI i)), (0, .ref o), (1, .long w)] := hl
  have ih_2 := ih
  refine lv_iload_n hx hb d_S_hasLooseLink_2 rfl (lv_at hl 0 rfl) ?_
  refine lv_bipush (v := nI 60) hx hb d_S_hasLooseLink_3 (by decide +kernel) ?_
  refine lv_icmp_ge (tgt := 37) hx hb d_S_hasLooseLink_5 (by decide) (fun c_1 => ?_) (fun c_1 => ?_)
  · have c_1 : 60 ≤ i := (nI_leI (by decide) (by omega)).mp c_1
    refine lv_iconst (v := nI 0) hx hb d_S_hasLooseLink_37 (by decide +kernel) ?_
    exact W.zret (v := nI 0) (ty := .boolean) hx hb hr (by decide +kernel) (fun t ht hW => ⟨nI 0, rfl, sx_b0 (by rw [show 60 = i by omega]; exact hJ), ht⟩) (fun _ h => by cases h) d_S_hasLooseLink_38
  · have c_1 : i < 60 := Nat.not_le.mp (fun z => c_1 ((nI_leI (by decide) (by omega)).mpr z))
    refine lv_aload_n hx hb d_S_hasLooseLink_8 rfl (lv_at hl 1 rfl) ?_
    refine va_get (D := D) (ci := 2) (v := .long lk) (C := R_S) (T := T_S) (N := 3) hx hb hts iw_S hown hK.1 hP 0 rfl rfl 2 (by decide) (hts _ wd_59) (fun _ h9 => h9) rfl d_S_hasLooseLink_9 ?_
    refine lv_lload_n hx hb d_S_hasLooseLink_12 rfl (lv_at hl 2 rfl) ?_
    refine lv_land hx hb d_S_hasLooseLink_13 ?_
    refine lv_iload_n hx hb d_S_hasLooseLink_14 rfl (lv_at hl 0 rfl) ?_
    refine vp_callSi (va_runSN (As := [.long (lk &&& w), .int (nI i)]) (rest := []) ⟨hx, hb, hml, hown, hts⟩ (k_holds l D cA (lk &&& w) i (by omega)) ⟨va_cnB 2 hts (sx_GI wd_110) rfl rfl rfl (hK.2.1 _ wd_147) (hts _ wd_1) (by decide +kernel) ⟨Nat.le_of_ble_eq_true rfl, Nat.le_of_ble_eq_true rfl⟩, hts _ wd_109, trivial⟩ (sx_preS hK (sx_P0 : va_P D vwCl [] s.heap)) rfl rfl hl.1 rfl (lv_room (Nat.le_of_ble_eq_true rfl)) d_S_hasLooseLink_15 ⟨Nat.le_of_ble_eq_true rfl, Nat.le_of_ble_eq_true rfl⟩).run (fun r_3 hr_2 => ?_)
    subst hr_2
    refine lv_if_eq (tgt := 31) hx hb d_S_hasLooseLink_18 (by decide) (fun c_4 => ?_) (fun c_4 => ?_)
    · have c_4 : (sx_bt (lk &&& w) i) = false := sx_bI0 c_4
      refine lv_iinc (v := nI (i + 1)) (lv' := [(3, .int (nI (i + 1))), (0, .ref o), (1, .long w)]) hx hb d_S_hasLooseLink_31 hl (k := 0) rfl (nI_1 i) (by decide) rfl (fun ls hl => ?_)
      refine lv_goto (tgt := 2) hx hb d_S_hasLooseLink_34 (by decide) ?_
      exact ih_2 (i + 1) (⟨by omega, sx_any_s hJ (by rw [c_4]; rfl)⟩) (by omega) ls (lv_sub hl [0, 1, 2] rfl)
    · have c_4 : (sx_bt (lk &&& w) i) = true := sx_bIn c_4
      refine lv_aload_n hx hb d_S_hasLooseLink_21 rfl (lv_at hl 1 rfl) ?_
      refine lv_iload_n hx hb d_S_hasLooseLink_22 rfl (lv_at hl 0 rfl) ?_
      refine vp_callSi (va_runV (As := [.int (nI i)]) (rest := []) ⟨hx, hb, hml, hown, hts⟩ (k_leads l D cA o a1 v f lk (nI i)) (cwV 1 hts (sx_GV wd_333 wd_144 wd_145 wd_4 wd_146) rfl rfl rfl (by decide +kernel) ⟨Nat.le_of_ble_eq_true rfl, Nat.le_of_ble_eq_true rfl⟩) (sx_preV hK hP (va_recv hK.1 hP (ci := 2) (q0 := 0) rfl rfl)) rfl rfl hl.1 rfl (lv_room (Nat.le_of_ble_eq_true rfl)) d_S_hasLooseLink_23 ⟨Nat.le_of_ble_eq_true rfl, Nat.le_of_ble_eq_true rfl⟩).run (fun r_6 hr_5 => ?_)
      subst hr_5
      refine lv_if_ne (tgt := 31) hx hb d_S_hasLooseLink_26 (by decide) (fun c_7 => ?_) (fun c_7 => ?_)
      · refine lv_iinc (v := nI (i + 1)) (lv' := [(3, .int (nI (i + 1))), (0, .ref o), (1, .long w)]) hx hb d_S_hasLooseLink_31 hl (k := 0) rfl (nI_1 i) (by decide) rfl (fun ls hl => ?_)
        refine lv_goto (tgt := 2) hx hb d_S_hasLooseLink_34 (by decide) ?_
        exact ih_2 (i + 1) (⟨by omega, sx_any_s hJ (by rw [decide_eq_false c_7, Bool.and_false])⟩) (by omega) ls (lv_sub hl [0, 1, 2] rfl)
      · refine lv_iconst (v := nI 1) hx hb d_S_hasLooseLink_29 (by decide +kernel) ?_
        exact W.zret (v := nI 1) (ty := .boolean) hx hb hr (by decide +kernel) (fun t ht hW => ⟨nI 1, rfl, sx_b1 (sx_any_t.mpr ⟨i, by omega, by rw [c_4, decide_eq_true c_7]; rfl⟩), ht⟩) (fun _ h => by cases h) d_S_hasLooseLink_30
end
section
set_option maxHeartbeats 4000000 in
set_option maxRecDepth 100000 in
theorem k_addD (l : Launch) (D : va_G) (cA : Nat → ClassId) (sz : Nat) (g0 g1 g2 g3 g4 g5 : Nat) (dp out : Nat → Int32) (d : Nat) (th hw br ops rf : Int32) (tp : Nat → Int32) (tc : Int32) (ts : Int64) (wv : Nat → Int32) (wf wl : Int64) (hd : d < 12) (pa : Int32) (ob : Bool) : Met l y_A_addDeclared w_A_addDeclared ({ frames := 0, cells := 0, slots := 0, locals := 0 }) (sx_Pw D cA [.ref g0, .int pa, .int (sx_bI ob)] (wA cA g0 g1 g2 g3 g4 g5 dp out (nI d) th hw br ops rf tp tc ts wv wf wl) sz) (va_Qv (fun (_ : Unit) => True) (sx_Bw D (wA cA g0 g1 g2 g3 g4 g5 dp out (nI d) th hw br ops rf tp tc ts wv wf wl) sz (fun _ => wA cA g0 g1 g2 g3 g4 g5 (upd dp d pa) (upd out d (sx_bI ob)) (nI (d + 1)) th hw br ops rf tp tc ts wv wf wl)) (va_A (wA cA g0 g1 g2 g3 g4 g5 dp out (nI d) th hw br ops rf tp tc ts wv wf wl) sz)) 0 0 (va_A (wA cA g0 g1 g2 g3 g4 g5 dp out (nI d) th hw br ops rf tp tc ts wv wf wl) sz) := by
  refine Met.ofW (cc := b_A_addDeclared) (maxL := 3) (ret := none) (by decide) rfl ?_
  intro pG eG s m args below meth cG s₁ B hml hv
  obtain ⟨rfl, hsz, hP, hK, hD0⟩ := hv
  have hx := B.exec
  have hb := B.bytes
  have hr := B.returns
  have hts0 := atoms_spec (ws := w_A_addDeclared) B.pre
  have hts : ∀ w ∈ sx_gw, w.before _ s = true := fun w h => hts0 w (List.mem_cons_of_mem _ h)
  have hown : s.vm.findClass R_A = some m.cls := findClass_of_methodNamed B.named
  have hlocks := B.notSynchronized
  subst hsz
  have hD := hD0.self (sz := s.heap.size)
  generalize hAe : va_A (wA cA g0 g1 g2 g3 g4 g5 dp out (nI d) th hw br ops rf tp tc ts wv wf wl) s.heap.size = A at hD ⊢
  have hA : ∀ q : Nat, s.heap.size ≤ q → A q := fun q h => by rw [← hAe]; exact Or.inr h
  have hS : va_S A s.heap s.heap [] := va_S.rf
  have hl := lv_entry ([.ref g0, .int pa, .int (sx_bI ob)]) (n := 3) (Nat.le_of_ble_eq_true rfl)
  rw [lg_entry_eq]
  generalize (lg_sl ([.ref g0, .int pa, .int (sx_bI ob)]) ++ List.replicate (3 - (lg_sl ([.ref g0, .int pa, .int (sx_bI ob)])).length) Slot.unset).toArray = ls at hl ⊢
  have hl : lv_has ls 3 [(0, .ref g0), (1, .int pa), (2, .int (sx_bI ob))] := hl
  refine lv_aload_n hx hb d_A_addDeclared_0 rfl (lv_at hl 0 rfl) ?_
  refine va_get (D := D) (ci := 0) (v := .int (nI d)) (C := R_A) (T := T_A) (N := 12) hx hb hts iw_A hown hK.1 hP 0 rfl rfl 2 (by decide) (hts _ wd_163) (fun _ h9 => h9) rfl d_A_addDeclared_1 ?_
  refine lv_bipush (v := nI 12) hx hb d_A_addDeclared_4 (by decide +kernel) ?_
  refine lv_icmp_ge (tgt := 39) hx hb d_A_addDeclared_6 (by decide) (fun c_1 => ?_) (fun c_1 => ?_)
  · have c_1 : 12 ≤ d := (nI_leI (by decide) (by omega)).mp c_1
    omega
  · have c_1 : d < 12 := Nat.not_le.mp (fun z => c_1 ((nI_leI (by decide) (by omega)).mpr z))
    refine lv_aload_n hx hb d_A_addDeclared_9 rfl (lv_at hl 0 rfl) ?_
    refine va_get (D := D) (ci := 0) (v := .ref g1) (C := R_A) (T := T_A) (N := 12) hx hb hts iw_A hown hK.1 hP 0 rfl rfl 0 (by decide) (hts _ wd_159) (fun _ h9 => h9) rfl d_A_addDeclared_10 ?_
    refine lv_aload_n hx hb d_A_addDeclared_13 rfl (lv_at hl 0 rfl) ?_
    refine va_get (D := D) (ci := 0) (v := .int (nI d)) (C := R_A) (T := T_A) (N := 12) hx hb hts iw_A hown hK.1 hP 0 rfl rfl 2 (by decide) (hts _ wd_163) (fun _ h9 => h9) rfl d_A_addDeclared_14 ?_
    refine lv_iload_n hx hb d_A_addDeclared_17 rfl (lv_at hl 1 rfl) ?_
    refine va_iast hx hb hK.1 hP hD hS 1 0 rfl rfl (vp_in_nI (by omega) (by decide)) d_A_addDeclared_18 (fun H locs hP hD hS => ?_)
    rw [nI_clamp (by omega)] at hP hD
    have hP : va_P D vwCl (wA cA g0 g1 g2 g3 g4 g5 (upd dp d pa) out (nI d) th hw br ops rf tp tc ts wv wf wl) H := hP
    have hD : va_D A (wA cA g0 g1 g2 g3 g4 g5 (upd dp d pa) out (nI d) th hw br ops rf tp tc ts wv wf wl) := hD
    refine lv_aload_n hx hb d_A_addDeclared_19 rfl (lv_at hl 0 rfl) ?_
    refine va_get (D := D) (ci := 0) (v := .ref g2) (C := R_A) (T := T_A) (N := 12) hx hb hts iw_A hown hK.1 hP 0 rfl rfl 1 (by decide) (hts _ wd_161) (fun _ h9 => h9) rfl d_A_addDeclared_20 ?_
    refine lv_aload_n hx hb d_A_addDeclared_23 rfl (lv_at hl 0 rfl) ?_
    refine va_get (D := D) (ci := 0) (v := .int (nI d)) (C := R_A) (T := T_A) (N := 12) hx hb hts iw_A hown hK.1 hP 0 rfl rfl 2 (by decide) (hts _ wd_163) (fun _ h9 => h9) rfl d_A_addDeclared_24 ?_
    refine lv_iload_n hx hb d_A_addDeclared_27 rfl (lv_at hl 2 rfl) ?_
    refine va_zast hx hb hK.1 hP hD hS 2 1 rfl rfl (vp_in_nI (by omega) (by decide)) d_A_addDeclared_28 (fun H locs hP hD hS => ?_)
    rw [nI_clamp (by omega)] at hP hD
    rw [sx_bI_vnar] at hP hD
    have hP : va_P D vwCl (wA cA g0 g1 g2 g3 g4 g5 (upd dp d pa) (upd out d (sx_bI ob)) (nI d) th hw br ops rf tp tc ts wv wf wl) H := hP
    have hD : va_D A (wA cA g0 g1 g2 g3 g4 g5 (upd dp d pa) (upd out d (sx_bI ob)) (nI d) th hw br ops rf tp tc ts wv wf wl) := hD
    refine lv_aload_n hx hb d_A_addDeclared_29 rfl (lv_at hl 0 rfl) ?_
    refine lv_dup hx hb d_A_addDeclared_30 rfl ?_
    refine va_get (D := D) (ci := 0) (v := .int (nI d)) (C := R_A) (T := T_A) (N := 12) hx hb hts iw_A hown hK.1 hP 0 rfl rfl 2 (by decide) (hts _ wd_163) (fun _ h9 => h9) rfl d_A_addDeclared_31 ?_
    refine lv_iconst (v := nI 1) hx hb d_A_addDeclared_34 (by decide +kernel) ?_
    refine lv_iadd hx hb d_A_addDeclared_35 ?_
    refine sx_asi (y := nI (d + 1)) (nI_add d 1) ?_
    refine va_put (D := D) (ci := 0) (v := .int (nI (d + 1))) (ty := .int) (C := R_A) (T := T_A) (N := 12) hx hb hts iw_A t_A o_A n_A hown hK.1 hP hD hS 0 rfl rfl 2 (by decide) (hts _ wd_163) (fun _ h9 => h9) rfl (by decide +kernel) rfl rfl (Nat.le_of_ble_eq_true rfl) d_A_addDeclared_36 (fun H locs hP hD hS => ?_)
    have hP : va_P D vwCl (wA cA g0 g1 g2 g3 g4 g5 (upd dp d pa) (upd out d (sx_bI ob)) (nI (d + 1)) th hw br ops rf tp tc ts wv wf wl) H := hP
    have hD : va_D A (wA cA g0 g1 g2 g3 g4 g5 (upd dp d pa) (upd out d (sx_bI ob)) (nI (d + 1)) th hw br ops rf tp tc ts wv wf wl) := hD
    have hP9 : va_P D vwCl (wA cA g0 g1 g2 g3 g4 g5 (upd dp d pa) (upd out d (sx_bI ob)) (nI (d + 1)) th hw br ops rf tp tc ts wv wf wl) H := hP
    have hD9 : va_D A (wA cA g0 g1 g2 g3 g4 g5 (upd dp d pa) (upd out d (sx_bI ob)) (nI (d + 1)) th hw br ops rf tp tc ts wv wf wl) := hD
    exact W.vret hx hb hr (fun t ht hW => ⟨⟨(), rfl, trivial, by rw [ht]; exact hP9, by rw [hAe]; exact hD9⟩, hS.F ht⟩) hS.2.2 d_A_addDeclared_39

set_option maxHeartbeats 4000000 in
set_option maxRecDepth 100000 in
theorem k_startW (l : Launch) (D : va_G) (cA : Nat → ClassId) (sz : Nat) (g0 g1 g2 g3 g4 g5 : Nat) (dp out : Nat → Int32) (dc th hw br ops rf : Int32) (tp : Nat → Int32) (tc : Int32) (ts : Int64) (wv : Nat → Int32) (wf wl : Int64) : Met l y_A_startWorld w_A_startWorld ({ frames := 0, cells := 0, slots := 0, locals := 0 }) (sx_Pw D cA [.ref g0] (wA cA g0 g1 g2 g3 g4 g5 dp out dc th hw br ops rf tp tc ts wv wf wl) sz) (va_Qv (fun (_ : Unit) => True) (sx_Bw D (wA cA g0 g1 g2 g3 g4 g5 dp out dc th hw br ops rf tp tc ts wv wf wl) sz (fun _ => wA cA g0 g1 g2 g3 g4 g5 dp out dc (nI 1) (nI 1) (nI 0) (nI 0) (nI 0) tp (nI 0) 0 wv wf wl)) (va_A (wA cA g0 g1 g2 g3 g4 g5 dp out dc th hw br ops rf tp tc ts wv wf wl) sz)) 0 0 (va_A (wA cA g0 g1 g2 g3 g4 g5 dp out dc th hw br ops rf tp tc ts wv wf wl) sz) := by
  refine Met.ofW (cc := b_A_startWorld) (maxL := 1) (ret := none) (by decide) rfl ?_
  intro pG eG s m args below meth cG s₁ B hml hv
  obtain ⟨rfl, hsz, hP, hK, hD0⟩ := hv
  have hx := B.exec
  have hb := B.bytes
  have hr := B.returns
  have hts0 := atoms_spec (ws := w_A_startWorld) B.pre
  have hts : ∀ w ∈ sx_gw, w.before _ s = true := fun w h => hts0 w (List.mem_cons_of_mem _ h)
  have hown : s.vm.findClass R_A = some m.cls := findClass_of_methodNamed B.named
  have hlocks := B.notSynchronized
  subst hsz
  have hD := hD0.self (sz := s.heap.size)
  generalize hAe : va_A (wA cA g0 g1 g2 g3 g4 g5 dp out dc th hw br ops rf tp tc ts wv wf wl) s.heap.size = A at hD ⊢
  have hA : ∀ q : Nat, s.heap.size ≤ q → A q := fun q h => by rw [← hAe]; exact Or.inr h
  have hS : va_S A s.heap s.heap [] := va_S.rf
  have hl := lv_entry ([.ref g0]) (n := 1) (Nat.le_of_ble_eq_true rfl)
  rw [lg_entry_eq]
  generalize (lg_sl ([.ref g0]) ++ List.replicate (1 - (lg_sl ([.ref g0])).length) Slot.unset).toArray = ls at hl ⊢
  have hl : lv_has ls 1 [(0, .ref g0)] := hl
  refine lv_aload_n hx hb d_A_startWorld_0 rfl (lv_at hl 0 rfl) ?_
  refine lv_iconst (v := nI 1) hx hb d_A_startWorld_1 (by decide +kernel) ?_
  refine va_put (D := D) (ci := 0) (v := .int (nI 1)) (ty := .boolean) (C := R_A) (T := T_A) (N := 12) hx hb hts iw_A t_A o_A n_A hown hK.1 hP hD hS 0 rfl rfl 4 (by decide) (hts _ wd_167) (fun _ h9 => h9) rfl (by decide +kernel) (by decide +kernel) (by decide +kernel) (Nat.le_of_ble_eq_true rfl) d_A_startWorld_2 (fun H locs hP hD hS => ?_)
  have hP : va_P D vwCl (wA cA g0 g1 g2 g3 g4 g5 dp out dc (nI 1) hw br ops rf tp tc ts wv wf wl) H := hP
  have hD : va_D A (wA cA g0 g1 g2 g3 g4 g5 dp out dc (nI 1) hw br ops rf tp tc ts wv wf wl) := hD
  refine lv_aload_n hx hb d_A_startWorld_5 rfl (lv_at hl 0 rfl) ?_
  refine lv_iconst (v := nI 1) hx hb d_A_startWorld_6 (by decide +kernel) ?_
  refine va_put (D := D) (ci := 0) (v := .int (nI 1)) (ty := .boolean) (C := R_A) (T := T_A) (N := 12) hx hb hts iw_A t_A o_A n_A hown hK.1 hP hD hS 0 rfl rfl 5 (by decide) (hts _ wd_169) (fun _ h9 => h9) rfl (by decide +kernel) (by decide +kernel) (by decide +kernel) (Nat.le_of_ble_eq_true rfl) d_A_startWorld_7 (fun H locs hP hD hS => ?_)
  have hP : va_P D vwCl (wA cA g0 g1 g2 g3 g4 g5 dp out dc (nI 1) (nI 1) br ops rf tp tc ts wv wf wl) H := hP
  have hD : va_D A (wA cA g0 g1 g2 g3 g4 g5 dp out dc (nI 1) (nI 1) br ops rf tp tc ts wv wf wl) := hD
  refine lv_aload_n hx hb d_A_startWorld_10 rfl (lv_at hl 0 rfl) ?_
  refine lv_iconst (v := nI 0) hx hb d_A_startWorld_11 (by decide +kernel) ?_
  refine va_put (D := D) (ci := 0) (v := .int (nI 0)) (ty := .boolean) (C := R_A) (T := T_A) (N := 12) hx hb hts iw_A t_A o_A n_A hown hK.1 hP hD hS 0 rfl rfl 6 (by decide) (hts _ wd_171) (fun _ h9 => h9) rfl (by decide +kernel) (by decide +kernel) (by decide +kernel) (Nat.le_of_ble_eq_true rfl) d_A_startWorld_12 (fun H locs hP hD hS => ?_)
  have hP : va_P D vwCl (wA cA g0 g1 g2 g3 g4 g5 dp out dc (nI 1) (nI 1) (nI 0) ops rf tp tc ts wv wf wl) H := hP
  have hD : va_D A (wA cA g0 g1 g2 g3 g4 g5 dp out dc (nI 1) (nI 1) (nI 0) ops rf tp tc ts wv wf wl) := hD
  refine lv_aload_n hx hb d_A_startWorld_15 rfl (lv_at hl 0 rfl) ?_
  refine lv_iconst (v := nI 0) hx hb d_A_startWorld_16 (by decide +kernel) ?_
  refine va_put (D := D) (ci := 0) (v := .int (nI 0)) (ty := .int) (C := R_A) (T := T_A) (N := 12) hx hb hts iw_A t_A o_A n_A hown hK.1 hP hD hS 0 rfl rfl 7 (by decide) (hts _ wd_173) (fun _ h9 => h9) rfl (by decide +kernel) rfl rfl (Nat.le_of_ble_eq_true rfl) d_A_startWorld_17 (fun H locs hP hD hS => ?_)
  have hP : va_P D vwCl (wA cA g0 g1 g2 g3 g4 g5 dp out dc (nI 1) (nI 1) (nI 0) (nI 0) rf tp tc ts wv wf wl) H := hP
  have hD : va_D A (wA cA g0 g1 g2 g3 g4 g5 dp out dc (nI 1) (nI 1) (nI 0) (nI 0) rf tp tc ts wv wf wl) := hD
  refine lv_aload_n hx hb d_A_startWorld_20 rfl (lv_at hl 0 rfl) ?_
  refine lv_iconst (v := nI 0) hx hb d_A_startWorld_21 (by decide +kernel) ?_
  refine va_put (D := D) (ci := 0) (v := .int (nI 0)) (ty := .int) (C := R_A) (T := T_A) (N := 12) hx hb hts iw_A t_A o_A n_A hown hK.1 hP hD hS 0 rfl rfl 8 (by decide) (hts _ wd_175) (fun _ h9 => h9) rfl (by decide +kernel) rfl rfl (Nat.le_of_ble_eq_true rfl) d_A_startWorld_22 (fun H locs hP hD hS => ?_)
  have hP : va_P D vwCl (wA cA g0 g1 g2 g3 g4 g5 dp out dc (nI 1) (nI 1) (nI 0) (nI 0) (nI 0) tp tc ts wv wf wl) H := hP
  have hD : va_D A (wA cA g0 g1 g2 g3 g4 g5 dp out dc (nI 1) (nI 1) (nI 0) (nI 0) (nI 0) tp tc ts wv wf wl) := hD
  refine lv_aload_n hx hb d_A_startWorld_25 rfl (lv_at hl 0 rfl) ?_
  refine lv_iconst (v := nI 0) hx hb d_A_startWorld_26 (by decide +kernel) ?_
  refine va_put (D := D) (ci := 0) (v := .int (nI 0)) (ty := .int) (C := R_A) (T := T_A) (N := 12) hx hb hts iw_A t_A o_A n_A hown hK.1 hP hD hS 0 rfl rfl 10 (by decide) (hts _ wd_179) (fun _ h9 => h9) rfl (by decide +kernel) rfl rfl (Nat.le_of_ble_eq_true rfl) d_A_startWorld_27 (fun H locs hP hD hS => ?_)
  have hP : va_P D vwCl (wA cA g0 g1 g2 g3 g4 g5 dp out dc (nI 1) (nI 1) (nI 0) (nI 0) (nI 0) tp (nI 0) ts wv wf wl) H := hP
  have hD : va_D A (wA cA g0 g1 g2 g3 g4 g5 dp out dc (nI 1) (nI 1) (nI 0) (nI 0) (nI 0) tp (nI 0) ts wv wf wl) := hD
  refine lv_aload_n hx hb d_A_startWorld_30 rfl (lv_at hl 0 rfl) ?_
  refine lv_lconst (v := 0) hx hb d_A_startWorld_31 (by decide +kernel) ?_
  refine va_put (D := D) (ci := 0) (v := .long 0) (ty := .long) (C := R_A) (T := T_A) (N := 12) hx hb hts iw_A t_A o_A n_A hown hK.1 hP hD hS 0 rfl rfl 11 (by decide) (hts _ wd_181) (fun _ h9 => h9) rfl (by decide +kernel) rfl rfl (Nat.le_of_ble_eq_true rfl) d_A_startWorld_32 (fun H locs hP hD hS => ?_)
  have hP : va_P D vwCl (wA cA g0 g1 g2 g3 g4 g5 dp out dc (nI 1) (nI 1) (nI 0) (nI 0) (nI 0) tp (nI 0) 0 wv wf wl) H := hP
  have hD : va_D A (wA cA g0 g1 g2 g3 g4 g5 dp out dc (nI 1) (nI 1) (nI 0) (nI 0) (nI 0) tp (nI 0) 0 wv wf wl) := hD
  have hP9 : va_P D vwCl (wA cA g0 g1 g2 g3 g4 g5 dp out dc (nI 1) (nI 1) (nI 0) (nI 0) (nI 0) tp (nI 0) 0 wv wf wl) H := hP
  have hD9 : va_D A (wA cA g0 g1 g2 g3 g4 g5 dp out dc (nI 1) (nI 1) (nI 0) (nI 0) (nI 0) tp (nI 0) 0 wv wf wl) := hD
  exact W.vret hx hb hr (fun t ht hW => ⟨⟨(), rfl, trivial, by rw [ht]; exact hP9, by rw [hAe]; exact hD9⟩, hS.F ht⟩) hS.2.2 d_A_startWorld_35

set_option maxHeartbeats 4000000 in
set_option maxRecDepth 100000 in
theorem k_op (l : Launch) (D : va_G) (cA : Nat → ClassId) (sz : Nat) (g0 g1 g2 g3 g4 g5 : Nat) (dp out : Nat → Int32) (dc th hw br : Int32) (op : Nat) (rf : Int32) (tp : Nat → Int32) (tc : Int32) (ts : Int64) (wv : Nat → Int32) (wf wl : Int64) (L : Nat) (ho : op < L) (hL : L ≤ 500) : Met l y_A_startOperation w_A_startOperation ({ frames := 0, cells := 0, slots := 0, locals := 0 }) (sx_Pw D cA [.ref g0, .int (nI L)] (wA cA g0 g1 g2 g3 g4 g5 dp out dc th hw br (nI op) rf tp tc ts wv wf wl) sz) (va_Qi (fun r (_ : Unit) => r = sx_bI true) (sx_Bw D (wA cA g0 g1 g2 g3 g4 g5 dp out dc th hw br (nI op) rf tp tc ts wv wf wl) sz (fun _ => wA cA g0 g1 g2 g3 g4 g5 dp out dc th hw br (nI (op + 1)) rf tp tc ts wv wf wl)) (va_A (wA cA g0 g1 g2 g3 g4 g5 dp out dc th hw br (nI op) rf tp tc ts wv wf wl) sz)) 0 0 (va_A (wA cA g0 g1 g2 g3 g4 g5 dp out dc th hw br (nI op) rf tp tc ts wv wf wl) sz) := by
  refine Met.ofW (cc := b_A_startOperation) (maxL := 2) (ret := (some .boolean)) (by decide) rfl ?_
  intro pG eG s m args below meth cG s₁ B hml hv
  obtain ⟨rfl, hsz, hP, hK, hD0⟩ := hv
  have hx := B.exec
  have hb := B.bytes
  have hr := B.returns
  have hts0 := atoms_spec (ws := w_A_startOperation) B.pre
  have hts : ∀ w ∈ sx_gw, w.before _ s = true := fun w h => hts0 w (List.mem_cons_of_mem _ h)
  have hown : s.vm.findClass R_A = some m.cls := findClass_of_methodNamed B.named
  have hlocks := B.notSynchronized
  subst hsz
  have hD := hD0.self (sz := s.heap.size)
  generalize hAe : va_A (wA cA g0 g1 g2 g3 g4 g5 dp out dc th hw br (nI op) rf tp tc ts wv wf wl) s.heap.size = A at hD ⊢
  have hA : ∀ q : Nat, s.heap.size ≤ q → A q := fun q h => by rw [← hAe]; exact Or.inr h
  have hS : va_S A s.heap s.heap [] := va_S.rf
  have hl := lv_entry ([.ref g0, .int (nI L)]) (n := 2) (Nat.le_of_ble_eq_true rfl)
  rw [lg_entry_eq]
  generalize (lg_sl ([.ref g0, .int (nI L)]) ++ List.replicate (2 - (lg_sl ([.ref g0, .int (nI L)])).length) Slot.unset).toArray = ls at hl ⊢
  have hl : lv_has ls 2 [(0, .ref g0), (1, .int (nI L))] := hl
  refine lv_aload_n hx hb d_A_startOperation_0 rfl (lv_at hl 0 rfl) ?_
  refine va_get (D := D) (ci := 0) (v := .int (nI op)) (C := R_A) (T := T_A) (N := 12) hx hb hts iw_A hown hK.1 hP 0 rfl rfl 7 (by decide) (hts _ wd_173) (fun _ h9 => h9) rfl d_A_startOperation_1 ?_
  refine lv_iload_n hx hb d_A_startOperation_4 rfl (lv_at hl 1 rfl) ?_
  refine lv_icmp_lt (tgt := 15) hx hb d_A_startOperation_5 (by decide) (fun c_1 => ?_) (fun c_1 => ?_)
  · have c_1 : op < L := (nI_ltI (by omega) (by omega)).mp c_1
    refine lv_aload_n hx hb d_A_startOperation_15 rfl (lv_at hl 0 rfl) ?_
    refine lv_dup hx hb d_A_startOperation_16 rfl ?_
    refine va_get (D := D) (ci := 0) (v := .int (nI op)) (C := R_A) (T := T_A) (N := 12) hx hb hts iw_A hown hK.1 hP 0 rfl rfl 7 (by decide) (hts _ wd_173) (fun _ h9 => h9) rfl d_A_startOperation_17 ?_
    refine lv_iconst (v := nI 1) hx hb d_A_startOperation_20 (by decide +kernel) ?_
    refine lv_iadd hx hb d_A_startOperation_21 ?_
    refine sx_asi (y := nI (op + 1)) (nI_add op 1) ?_
    refine va_put (D := D) (ci := 0) (v := .int (nI (op + 1))) (ty := .int) (C := R_A) (T := T_A) (N := 12) hx hb hts iw_A t_A o_A n_A hown hK.1 hP hD hS 0 rfl rfl 7 (by decide) (hts _ wd_173) (fun _ h9 => h9) rfl (by decide +kernel) rfl rfl (Nat.le_of_ble_eq_true rfl) d_A_startOperation_22 (fun H locs hP hD hS => ?_)
    have hP : va_P D vwCl (wA cA g0 g1 g2 g3 g4 g5 dp out dc th hw br (nI (op + 1)) rf tp tc ts wv wf wl) H := hP
    have hD : va_D A (wA cA g0 g1 g2 g3 g4 g5 dp out dc th hw br (nI (op + 1)) rf tp tc ts wv wf wl) := hD
    refine lv_iconst (v := nI 1) hx hb d_A_startOperation_25 (by decide +kernel) ?_
    have hP9 : va_P D vwCl (wA cA g0 g1 g2 g3 g4 g5 dp out dc th hw br (nI (op + 1)) rf tp tc ts wv wf wl) H := hP
    have hD9 : va_D A (wA cA g0 g1 g2 g3 g4 g5 dp out dc th hw br (nI (op + 1)) rf tp tc ts wv wf wl) := hD
    exact W.zret (v := nI 1) (ty := .boolean) hx hb hr (by decide +kernel) (fun t ht hW => ⟨⟨nI 1, (), rfl, rfl, by rw [ht]; exact hP9, by rw [hAe]; exact hD9⟩, hS.F ht⟩) hS.2.2 d_A_startOperation_26
  · have c_1 : L ≤ op := Nat.not_lt.mp (fun z => c_1 ((nI_ltI (by omega) (by omega)).mpr z))
    omega

set_option maxHeartbeats 4000000 in
set_option maxRecDepth 100000 in
theorem k_opF (l : Launch) (D : va_G) (cA : Nat → ClassId) (sz : Nat) (g0 g1 g2 g3 g4 g5 : Nat) (dp out : Nat → Int32) (dc th hw br : Int32) (op : Nat) (rf : Int32) (tp : Nat → Int32) (tc : Int32) (ts : Int64) (wv : Nat → Int32) (wf wl : Int64) (L : Nat) (ho : op = L) (hL : L ≤ 500) : Met l y_A_startOperation w_A_startOperation ({ frames := 0, cells := 0, slots := 0, locals := 0 }) (sx_Pw D cA [.ref g0, .int (nI L)] (wA cA g0 g1 g2 g3 g4 g5 dp out dc th hw br (nI op) rf tp tc ts wv wf wl) sz) (va_Qi (fun r (_ : Unit) => r = sx_bI false) (sx_Bw D (wA cA g0 g1 g2 g3 g4 g5 dp out dc th hw br (nI op) rf tp tc ts wv wf wl) sz (fun _ => wA cA g0 g1 g2 g3 g4 g5 dp out dc th hw (nI 1) (nI op) rf tp tc ts wv wf wl)) (va_A (wA cA g0 g1 g2 g3 g4 g5 dp out dc th hw br (nI op) rf tp tc ts wv wf wl) sz)) 0 0 (va_A (wA cA g0 g1 g2 g3 g4 g5 dp out dc th hw br (nI op) rf tp tc ts wv wf wl) sz) := by
  refine Met.ofW (cc := b_A_startOperation) (maxL := 2) (ret := (some .boolean)) (by decide) rfl ?_
  intro pG eG s m args below meth cG s₁ B hml hv
  obtain ⟨rfl, hsz, hP, hK, hD0⟩ := hv
  have hx := B.exec
  have hb := B.bytes
  have hr := B.returns
  have hts0 := atoms_spec (ws := w_A_startOperation) B.pre
  have hts : ∀ w ∈ sx_gw, w.before _ s = true := fun w h => hts0 w (List.mem_cons_of_mem _ h)
  have hown : s.vm.findClass R_A = some m.cls := findClass_of_methodNamed B.named
  have hlocks := B.notSynchronized
  subst hsz
  have hD := hD0.self (sz := s.heap.size)
  generalize hAe : va_A (wA cA g0 g1 g2 g3 g4 g5 dp out dc th hw br (nI op) rf tp tc ts wv wf wl) s.heap.size = A at hD ⊢
  have hA : ∀ q : Nat, s.heap.size ≤ q → A q := fun q h => by rw [← hAe]; exact Or.inr h
  have hS : va_S A s.heap s.heap [] := va_S.rf
  have hl := lv_entry ([.ref g0, .int (nI L)]) (n := 2) (Nat.le_of_ble_eq_true rfl)
  rw [lg_entry_eq]
  generalize (lg_sl ([.ref g0, .int (nI L)]) ++ List.replicate (2 - (lg_sl ([.ref g0, .int (nI L)])).length) Slot.unset).toArray = ls at hl ⊢
  have hl : lv_has ls 2 [(0, .ref g0), (1, .int (nI L))] := hl
  refine lv_aload_n hx hb d_A_startOperation_0 rfl (lv_at hl 0 rfl) ?_
  refine va_get (D := D) (ci := 0) (v := .int (nI op)) (C := R_A) (T := T_A) (N := 12) hx hb hts iw_A hown hK.1 hP 0 rfl rfl 7 (by decide) (hts _ wd_173) (fun _ h9 => h9) rfl d_A_startOperation_1 ?_
  refine lv_iload_n hx hb d_A_startOperation_4 rfl (lv_at hl 1 rfl) ?_
  refine lv_icmp_lt (tgt := 15) hx hb d_A_startOperation_5 (by decide) (fun c_1 => ?_) (fun c_1 => ?_)
  · have c_1 : op < L := (nI_ltI (by omega) (by omega)).mp c_1
    omega
  · have c_1 : L ≤ op := Nat.not_lt.mp (fun z => c_1 ((nI_ltI (by omega) (by omega)).mpr z))
    refine lv_aload_n hx hb d_A_startOperation_8 rfl (lv_at hl 0 rfl) ?_
    refine lv_iconst (v := nI 1) hx hb d_A_startOperation_9 (by decide +kernel) ?_
    refine va_put (D := D) (ci := 0) (v := .int (nI 1)) (ty := .boolean) (C := R_A) (T := T_A) (N := 12) hx hb hts iw_A t_A o_A n_A hown hK.1 hP hD hS 0 rfl rfl 6 (by decide) (hts _ wd_171) (fun _ h9 => h9) rfl (by decide +kernel) (by decide +kernel) (by decide +kernel) (Nat.le_of_ble_eq_true rfl) d_A_startOperation_10 (fun H locs hP hD hS => ?_)
    have hP : va_P D vwCl (wA cA g0 g1 g2 g3 g4 g5 dp out dc th hw (nI 1) (nI op) rf tp tc ts wv wf wl) H := hP
    have hD : va_D A (wA cA g0 g1 g2 g3 g4 g5 dp out dc th hw (nI 1) (nI op) rf tp tc ts wv wf wl) := hD
    refine lv_iconst (v := nI 0) hx hb d_A_startOperation_13 (by decide +kernel) ?_
    have hP9 : va_P D vwCl (wA cA g0 g1 g2 g3 g4 g5 dp out dc th hw (nI 1) (nI op) rf tp tc ts wv wf wl) H := hP
    have hD9 : va_D A (wA cA g0 g1 g2 g3 g4 g5 dp out dc th hw (nI 1) (nI op) rf tp tc ts wv wf wl) := hD
    exact W.zret (v := nI 0) (ty := .boolean) hx hb hr (by decide +kernel) (fun t ht hW => ⟨⟨nI 0, (), rfl, rfl, by rw [ht]; exact hP9, by rw [hAe]; exact hD9⟩, hS.F ht⟩) hS.2.2 d_A_startOperation_14

set_option maxHeartbeats 4000000 in
set_option maxRecDepth 100000 in
theorem k_note (l : Launch) (D : va_G) (cA : Nat → ClassId) (sz : Nat) (g0 g1 g2 g3 g4 g5 : Nat) (dp out : Nat → Int32) (dc th hw br ops rf : Int32) (tp : Nat → Int32) (t : Nat) (ts : Int64) (wv : Nat → Int32) (wf wl : Int64) (ht60 : t < 60) (j : Nat) (hj : j < 64) (hb0 : sx_bt ts j = false) : Met l y_A_noteTried w_A_noteTried ({ frames := 2, cells := 0, slots := 0, locals := 42 }) (sx_Pw D cA [.ref g0, .int (nI j)] (wA cA g0 g1 g2 g3 g4 g5 dp out dc th hw br ops rf tp (nI t) ts wv wf wl) sz) (va_Qv (fun (_ : Unit) => True) (sx_Bw D (wA cA g0 g1 g2 g3 g4 g5 dp out dc th hw br ops rf tp (nI t) ts wv wf wl) sz (fun _ => wA cA g0 g1 g2 g3 g4 g5 dp out dc th hw br ops rf (upd tp t (nI j)) (nI (t + 1)) (ts ||| sx_on j) wv wf wl)) (va_A (wA cA g0 g1 g2 g3 g4 g5 dp out dc th hw br ops rf tp (nI t) ts wv wf wl) sz)) 0 0 (va_A (wA cA g0 g1 g2 g3 g4 g5 dp out dc th hw br ops rf tp (nI t) ts wv wf wl) sz) := by
  refine Met.ofW (cc := b_A_noteTried) (maxL := 2) (ret := none) (by decide) rfl ?_
  intro pG eG s m args below meth cG s₁ B hml hv
  obtain ⟨rfl, hsz, hP, hK, hD0⟩ := hv
  have hx := B.exec
  have hb := B.bytes
  have hr := B.returns
  have hts0 := atoms_spec (ws := w_A_noteTried) B.pre
  have hts : ∀ w ∈ sx_gw, w.before _ s = true := fun w h => hts0 w (List.mem_cons_of_mem _ h)
  have hown : s.vm.findClass R_A = some m.cls := findClass_of_methodNamed B.named
  have hlocks := B.notSynchronized
  subst hsz
  have hD := hD0.self (sz := s.heap.size)
  generalize hAe : va_A (wA cA g0 g1 g2 g3 g4 g5 dp out dc th hw br ops rf tp (nI t) ts wv wf wl) s.heap.size = A at hD ⊢
  have hA : ∀ q : Nat, s.heap.size ≤ q → A q := fun q h => by rw [← hAe]; exact Or.inr h
  have hS : va_S A s.heap s.heap [] := va_S.rf
  have hl := lv_entry ([.ref g0, .int (nI j)]) (n := 2) (Nat.le_of_ble_eq_true rfl)
  rw [lg_entry_eq]
  generalize (lg_sl ([.ref g0, .int (nI j)]) ++ List.replicate (2 - (lg_sl ([.ref g0, .int (nI j)])).length) Slot.unset).toArray = ls at hl ⊢
  have hl : lv_has ls 2 [(0, .ref g0), (1, .int (nI j))] := hl
  refine lv_aload_n hx hb d_A_noteTried_0 rfl (lv_at hl 0 rfl) ?_
  refine va_get (D := D) (ci := 0) (v := .int (nI t)) (C := R_A) (T := T_A) (N := 12) hx hb hts iw_A hown hK.1 hP 0 rfl rfl 10 (by decide) (hts _ wd_179) (fun _ h9 => h9) rfl d_A_noteTried_1 ?_
  refine lv_bipush (v := nI 60) hx hb d_A_noteTried_4 (by decide +kernel) ?_
  refine lv_icmp_ge (tgt := 53) hx hb d_A_noteTried_6 (by decide) (fun c_1 => ?_) (fun c_1 => ?_)
  · have c_1 : 60 ≤ t := (nI_leI (by decide) (by omega)).mp c_1
    omega
  · have c_1 : t < 60 := Nat.not_le.mp (fun z => c_1 ((nI_leI (by decide) (by omega)).mpr z))
    refine lv_aload_n hx hb d_A_noteTried_9 rfl (lv_at hl 0 rfl) ?_
    refine va_get (D := D) (ci := 0) (v := .long ts) (C := R_A) (T := T_A) (N := 12) hx hb hts iw_A hown hK.1 hP 0 rfl rfl 11 (by decide) (hts _ wd_181) (fun _ h9 => h9) rfl d_A_noteTried_10 ?_
    refine lv_iload_n hx hb d_A_noteTried_13 rfl (lv_at hl 1 rfl) ?_
    refine vp_callSi (va_runSN (As := [.long ts, .int (nI j)]) (rest := []) ⟨hx, hb, hml, hown, hts⟩ (k_holds l D cA ts j (by omega)) ⟨va_cnB 2 hts (sx_GI wd_110) rfl rfl rfl (hK.2.1 _ wd_278) (hts _ wd_1) (by decide +kernel) ⟨Nat.le_of_ble_eq_true rfl, Nat.le_of_ble_eq_true rfl⟩, hts _ wd_109, trivial⟩ (sx_preS hK (sx_P0 : va_P D vwCl [] s.heap)) rfl rfl hl.1 rfl (lv_room (Nat.le_of_ble_eq_true rfl)) d_A_noteTried_14 ⟨Nat.le_of_ble_eq_true rfl, Nat.le_of_ble_eq_true rfl⟩).run (fun r_3 hr_2 => ?_)
    subst hr_2
    refine lv_if_ne (tgt := 53) hx hb d_A_noteTried_17 (by decide) (fun c_4 => ?_) (fun c_4 => ?_)
    · exact absurd (sx_bIn c_4) (by rw [hb0]; decide)
    · have c_4 : (sx_bt ts j) = false := sx_bI0 c_4
      refine lv_aload_n hx hb d_A_noteTried_20 rfl (lv_at hl 0 rfl) ?_
      refine lv_dup hx hb d_A_noteTried_21 rfl ?_
      refine va_get (D := D) (ci := 0) (v := .long ts) (C := R_A) (T := T_A) (N := 12) hx hb hts iw_A hown hK.1 hP 0 rfl rfl 11 (by decide) (hts _ wd_181) (fun _ h9 => h9) rfl d_A_noteTried_22 ?_
      refine lv_iload_n hx hb d_A_noteTried_25 rfl (lv_at hl 1 rfl) ?_
      refine vp_callSl (va_runSN (As := [.int (nI j)]) (rest := [.long ts, .ref g0]) ⟨hx, hb, hml, hown, hts⟩ (k_only l D cA j) ⟨va_cnB 1 hts (sx_GI wd_31) rfl rfl rfl (hK.2.1 _ wd_279) (hts _ wd_1) (by decide +kernel) ⟨Nat.le_of_ble_eq_true rfl, Nat.le_of_ble_eq_true rfl⟩, hts _ wd_30, trivial⟩ (sx_preS hK (sx_P0 : va_P D vwCl [] s.heap)) rfl rfl hl.1 rfl (lv_room (Nat.le_of_ble_eq_true rfl)) d_A_noteTried_26 ⟨Nat.le_of_ble_eq_true rfl, Nat.le_of_ble_eq_true rfl⟩).run (fun r_6 hr_5 => ?_)
      subst hr_5
      refine lv_lor hx hb d_A_noteTried_29 ?_
      refine va_put (D := D) (ci := 0) (v := .long (ts ||| (sx_on j))) (ty := .long) (C := R_A) (T := T_A) (N := 12) hx hb hts iw_A t_A o_A n_A hown hK.1 hP hD hS 0 rfl rfl 11 (by decide) (hts _ wd_181) (fun _ h9 => h9) rfl (by decide +kernel) rfl rfl (Nat.le_of_ble_eq_true rfl) d_A_noteTried_30 (fun H locs hP hD hS => ?_)
      have hP : va_P D vwCl (wA cA g0 g1 g2 g3 g4 g5 dp out dc th hw br ops rf tp (nI t) (ts ||| (sx_on j)) wv wf wl) H := hP
      have hD : va_D A (wA cA g0 g1 g2 g3 g4 g5 dp out dc th hw br ops rf tp (nI t) (ts ||| (sx_on j)) wv wf wl) := hD
      refine lv_aload_n hx hb d_A_noteTried_33 rfl (lv_at hl 0 rfl) ?_
      refine va_get (D := D) (ci := 0) (v := .ref g5) (C := R_A) (T := T_A) (N := 12) hx hb hts iw_A hown hK.1 hP 0 rfl rfl 9 (by decide) (hts _ wd_177) (fun _ h9 => h9) rfl d_A_noteTried_34 ?_
      refine lv_aload_n hx hb d_A_noteTried_37 rfl (lv_at hl 0 rfl) ?_
      refine va_get (D := D) (ci := 0) (v := .int (nI t)) (C := R_A) (T := T_A) (N := 12) hx hb hts iw_A hown hK.1 hP 0 rfl rfl 10 (by decide) (hts _ wd_179) (fun _ h9 => h9) rfl d_A_noteTried_38 ?_
      refine lv_iload_n hx hb d_A_noteTried_41 rfl (lv_at hl 1 rfl) ?_
      refine va_iast hx hb hK.1 hP hD hS 5 0 rfl rfl (vp_in_nI (by omega) (by decide)) d_A_noteTried_42 (fun H locs hP hD hS => ?_)
      rw [nI_clamp (by omega)] at hP hD
      have hP : va_P D vwCl (wA cA g0 g1 g2 g3 g4 g5 dp out dc th hw br ops rf (upd tp t (nI j)) (nI t) (ts ||| (sx_on j)) wv wf wl) H := hP
      have hD : va_D A (wA cA g0 g1 g2 g3 g4 g5 dp out dc th hw br ops rf (upd tp t (nI j)) (nI t) (ts ||| (sx_on j)) wv wf wl) := hD
      refine lv_aload_n hx hb d_A_noteTried_43 rfl (lv_at hl 0 rfl) ?_
      refine lv_dup hx hb d_A_noteTried_44 rfl ?_
      refine va_get (D := D) (ci := 0) (v := .int (nI t)) (C := R_A) (T := T_A) (N := 12) hx hb hts iw_A hown hK.1 hP 0 rfl rfl 10 (by decide) (hts _ wd_179) (fun _ h9 => h9) rfl d_A_noteTried_45 ?_
      refine lv_iconst (v := nI 1) hx hb d_A_noteTried_48 (by decide +kernel) ?_
      refine lv_iadd hx hb d_A_noteTried_49 ?_
      refine sx_asi (y := nI (t + 1)) (nI_add t 1) ?_
      refine va_put (D := D) (ci := 0) (v := .int (nI (t + 1))) (ty := .int) (C := R_A) (T := T_A) (N := 12) hx hb hts iw_A t_A o_A n_A hown hK.1 hP hD hS 0 rfl rfl 10 (by decide) (hts _ wd_179) (fun _ h9 => h9) rfl (by decide +kernel) rfl rfl (Nat.le_of_ble_eq_true rfl) d_A_noteTried_50 (fun H locs hP hD hS => ?_)
      have hP : va_P D vwCl (wA cA g0 g1 g2 g3 g4 g5 dp out dc th hw br ops rf (upd tp t (nI j)) (nI (t + 1)) (ts ||| (sx_on j)) wv wf wl) H := hP
      have hD : va_D A (wA cA g0 g1 g2 g3 g4 g5 dp out dc th hw br ops rf (upd tp t (nI j)) (nI (t + 1)) (ts ||| (sx_on j)) wv wf wl) := hD
      have hP9 : va_P D vwCl (wA cA g0 g1 g2 g3 g4 g5 dp out dc th hw br ops rf (upd tp t (nI j)) (nI (t + 1)) (ts ||| sx_on j) wv wf wl) H := hP
      have hD9 : va_D A (wA cA g0 g1 g2 g3 g4 g5 dp out dc th hw br ops rf (upd tp t (nI j)) (nI (t + 1)) (ts ||| sx_on j) wv wf wl) := hD
      exact W.vret hx hb hr (fun t ht hW => ⟨⟨(), rfl, trivial, by rw [ht]; exact hP9, by rw [hAe]; exact hD9⟩, hS.F ht⟩) hS.2.2 d_A_noteTried_53

set_option maxHeartbeats 4000000 in
set_option maxRecDepth 100000 in
theorem k_noteN (l : Launch) (D : va_G) (cA : Nat → ClassId) (sz : Nat) (g0 g1 g2 g3 g4 g5 : Nat) (dp out : Nat → Int32) (dc th hw br ops rf : Int32) (tp : Nat → Int32) (t : Nat) (ts : Int64) (wv : Nat → Int32) (wf wl : Int64) (ht60 : t ≤ 60) (j : Nat) (hj : j < 64) (hb0 : sx_bt ts j = true) : Met l y_A_noteTried w_A_noteTried ({ frames := 2, cells := 0, slots := 0, locals := 42 }) (sx_Pw D cA [.ref g0, .int (nI j)] (wA cA g0 g1 g2 g3 g4 g5 dp out dc th hw br ops rf tp (nI t) ts wv wf wl) sz) (va_Qv (fun (_ : Unit) => True) (sx_Bw D (wA cA g0 g1 g2 g3 g4 g5 dp out dc th hw br ops rf tp (nI t) ts wv wf wl) sz (fun _ => wA cA g0 g1 g2 g3 g4 g5 dp out dc th hw br ops rf tp (nI t) ts wv wf wl)) (va_A (wA cA g0 g1 g2 g3 g4 g5 dp out dc th hw br ops rf tp (nI t) ts wv wf wl) sz)) 0 0 (va_A (wA cA g0 g1 g2 g3 g4 g5 dp out dc th hw br ops rf tp (nI t) ts wv wf wl) sz) := by
  refine Met.ofW (cc := b_A_noteTried) (maxL := 2) (ret := none) (by decide) rfl ?_
  intro pG eG s m args below meth cG s₁ B hml hv
  obtain ⟨rfl, hsz, hP, hK, hD0⟩ := hv
  have hx := B.exec
  have hb := B.bytes
  have hr := B.returns
  have hts0 := atoms_spec (ws := w_A_noteTried) B.pre
  have hts : ∀ w ∈ sx_gw, w.before _ s = true := fun w h => hts0 w (List.mem_cons_of_mem _ h)
  have hown : s.vm.findClass R_A = some m.cls := findClass_of_methodNamed B.named
  have hlocks := B.notSynchronized
  subst hsz
  have hD := hD0.self (sz := s.heap.size)
  generalize hAe : va_A (wA cA g0 g1 g2 g3 g4 g5 dp out dc th hw br ops rf tp (nI t) ts wv wf wl) s.heap.size = A at hD ⊢
  have hA : ∀ q : Nat, s.heap.size ≤ q → A q := fun q h => by rw [← hAe]; exact Or.inr h
  have hS : va_S A s.heap s.heap [] := va_S.rf
  have hl := lv_entry ([.ref g0, .int (nI j)]) (n := 2) (Nat.le_of_ble_eq_true rfl)
  rw [lg_entry_eq]
  generalize (lg_sl ([.ref g0, .int (nI j)]) ++ List.replicate (2 - (lg_sl ([.ref g0, .int (nI j)])).length) Slot.unset).toArray = ls at hl ⊢
  have hl : lv_has ls 2 [(0, .ref g0), (1, .int (nI j))] := hl
  refine lv_aload_n hx hb d_A_noteTried_0 rfl (lv_at hl 0 rfl) ?_
  refine va_get (D := D) (ci := 0) (v := .int (nI t)) (C := R_A) (T := T_A) (N := 12) hx hb hts iw_A hown hK.1 hP 0 rfl rfl 10 (by decide) (hts _ wd_179) (fun _ h9 => h9) rfl d_A_noteTried_1 ?_
  refine lv_bipush (v := nI 60) hx hb d_A_noteTried_4 (by decide +kernel) ?_
  refine lv_icmp_ge (tgt := 53) hx hb d_A_noteTried_6 (by decide) (fun c_1 => ?_) (fun c_1 => ?_)
  · have c_1 : 60 ≤ t := (nI_leI (by decide) (by omega)).mp c_1
    have hP9 : va_P D vwCl (wA cA g0 g1 g2 g3 g4 g5 dp out dc th hw br ops rf tp (nI t) ts wv wf wl) s.heap := hP
    have hD9 : va_D A (wA cA g0 g1 g2 g3 g4 g5 dp out dc th hw br ops rf tp (nI t) ts wv wf wl) := hD
    exact W.vret hx hb hr (fun t ht hW => ⟨⟨(), rfl, trivial, by rw [ht]; exact hP9, by rw [hAe]; exact hD9⟩, hS.F ht⟩) hS.2.2 d_A_noteTried_53
  · have c_1 : t < 60 := Nat.not_le.mp (fun z => c_1 ((nI_leI (by decide) (by omega)).mpr z))
    refine lv_aload_n hx hb d_A_noteTried_9 rfl (lv_at hl 0 rfl) ?_
    refine va_get (D := D) (ci := 0) (v := .long ts) (C := R_A) (T := T_A) (N := 12) hx hb hts iw_A hown hK.1 hP 0 rfl rfl 11 (by decide) (hts _ wd_181) (fun _ h9 => h9) rfl d_A_noteTried_10 ?_
    refine lv_iload_n hx hb d_A_noteTried_13 rfl (lv_at hl 1 rfl) ?_
    refine vp_callSi (va_runSN (As := [.long ts, .int (nI j)]) (rest := []) ⟨hx, hb, hml, hown, hts⟩ (k_holds l D cA ts j (by omega)) ⟨va_cnB 2 hts (sx_GI wd_110) rfl rfl rfl (hK.2.1 _ wd_278) (hts _ wd_1) (by decide +kernel) ⟨Nat.le_of_ble_eq_true rfl, Nat.le_of_ble_eq_true rfl⟩, hts _ wd_109, trivial⟩ (sx_preS hK (sx_P0 : va_P D vwCl [] s.heap)) rfl rfl hl.1 rfl (lv_room (Nat.le_of_ble_eq_true rfl)) d_A_noteTried_14 ⟨Nat.le_of_ble_eq_true rfl, Nat.le_of_ble_eq_true rfl⟩).run (fun r_3 hr_2 => ?_)
    subst hr_2
    refine lv_if_ne (tgt := 53) hx hb d_A_noteTried_17 (by decide) (fun c_4 => ?_) (fun c_4 => ?_)
    · have c_4 : (sx_bt ts j) = true := sx_bIn c_4
      have hP9 : va_P D vwCl (wA cA g0 g1 g2 g3 g4 g5 dp out dc th hw br ops rf tp (nI t) ts wv wf wl) s.heap := hP
      have hD9 : va_D A (wA cA g0 g1 g2 g3 g4 g5 dp out dc th hw br ops rf tp (nI t) ts wv wf wl) := hD
      exact W.vret hx hb hr (fun t ht hW => ⟨⟨(), rfl, trivial, by rw [ht]; exact hP9, by rw [hAe]; exact hD9⟩, hS.F ht⟩) hS.2.2 d_A_noteTried_53
    · exact absurd (sx_bI0 c_4) (by rw [hb0]; decide)
end
section
set_option maxHeartbeats 4000000 in
set_option maxRecDepth 100000 in
theorem k_underD (l : Launch) (D : va_G) (cA : Nat → ClassId) (h g : Nat → Nat) (lim ac sn : Int32) (n : Nat) (α : sx_A) (ab un : Nat → Int64) (sv : Nat → Int32) (sf sl : Int64) (acts : Nat → Option Nat) (a : Nat) (dp out : Nat → Int32) (th hw br ops rf : Int32) (tp : Nat → Int32) (tc : Int32) (ts : Int64) (wv : Nat → Int32) (wf wl : Int64) (na L : Nat) (hI : sx_INV n na L α) (ha : a < na) (hR : sx_RP n (α 1) ab un) (hDO : sx_DO α a dp out) (ob : Bool) : Met l y_X_underDeclared w_X_underDeclared ({ frames := 2, cells := 0, slots := 0, locals := 42 }) (sx_Pr D cA [.ref (h 0), .ref (g 0), .int (sx_bI ob)] (wXA cA h g lim ac sn (nI n) (α 1) (α 2) ab un sv sf sl acts dp out (nI (sx_dN α a)) th hw br ops rf tp tc ts wv wf wl)) (vp_Sl (fun r => ∀ j, j < 64 → sx_bt r j = (decide (j < n) && sx_isD α a ob j))) 0 0 (fun _ => False) := by
  refine Met.ofW (cc := b_X_underDeclared) (maxL := 6) (ret := (some .long)) (by decide) rfl ?_
  intro pG eG s m args below meth cG s₁ B hml hv
  obtain ⟨rfl, hP, hK⟩ := hv
  have hx := B.exec
  have hb := B.bytes
  have hr := B.returns
  have hts0 := atoms_spec (ws := w_X_underDeclared) B.pre
  have hts : ∀ w ∈ sx_gw, w.before _ s = true := fun w h => hts0 w (List.mem_cons_of_mem _ h)
  have hown : s.vm.findClass R_X = some m.cls := findClass_of_methodNamed B.named
  have hlocks := B.notSynchronized
  have hl := lv_entry ([.ref (h 0), .ref (g 0), .int (sx_bI ob)]) (n := 6) (Nat.le_of_ble_eq_true rfl)
  rw [lg_entry_eq]
  generalize (lg_sl ([.ref (h 0), .ref (g 0), .int (sx_bI ob)]) ++ List.replicate (6 - (lg_sl ([.ref (h 0), .ref (g 0), .int (sx_bI ob)])).length) Slot.unset).toArray = ls at hl ⊢
  have hl : lv_has ls 6 [(0, .ref (h 0)), (1, .ref (g 0)), (2, .int (sx_bI ob))] := hl
  have hn31 := sx_INV_n hI
  have hn60 := hI.1.1.2
  have h1n := hI.1.1.1
  have hAc := sx_INV_A hI ha
  have hd12 := (sx_dN_ok hAc).1
  refine lv_lconst (v := 0) hx hb d_X_underDeclared_0 (by decide +kernel) ?_
  refine lv_lstore_n (lv' := [(3, .long 0), (0, .ref (h 0)), (1, .ref (g 0)), (2, .int (sx_bI ob))]) hx hb d_X_underDeclared_1 rfl hl (by decide) rfl (fun ls hl => ?_)
  refine lv_iconst (v := nI 0) hx hb d_X_underDeclared_2 (by decide +kernel) ?_
  refine lv_istore (lv' := [(5, .int (nI 0)), (3, .long 0), (0, .ref (h 0)), (1, .ref (g 0)), (2, .int (sx_bI ob))]) hx hb d_X_underDeclared_3 hl (by decide) rfl (fun ls hl => ?_)
  refine sx_loop (σ := Nat × Int64) (fun x => x.1 ≤ sx_dN α a ∧ ∀ j, j < 64 → sx_bt x.2 j = (decide (j < n) && sx_any (fun z => decide (α 11 (12 * a + z) = sx_bI ob) && sx_U (α 1) j (sx_dp α a z)) x.1)) (fun x => [(5, .int (nI x.1)), (3, .long x.2), (0, .ref (h 0)), (1, .ref (g 0)), (2, .int (sx_bI ob))]) (fun x => sx_dN α a - x.1) (0, 0) (⟨Nat.zero_le _, fun j _ => by rw [sx_bt_0]; simp [sx_any]⟩) (lv_sub hl [0, 1, 2, 3, 4] rfl) (fun x hJ ih ls hl => ?_)
  obtain ⟨k, all⟩ := x
  obtain ⟨hk, hJ⟩ := hJ
  have hl : lv_has ls 6 [(5, .int (nI k)), (3, .long all), (0, .ref (h 0)), (1, .ref (g 0)), (2, .int (sx_bI ob))] := hl
  have ih_5 := ih
  refine lv_iload hx hb d_X_underDeclared_5 (lv_at hl 0 rfl) ?_
  refine lv_aload_n hx hb d_X_underDeclared_7 rfl (lv_at hl 3 rfl) ?_
  refine va_getN (D := D) (ci := 0) (v := .int (nI (sx_dN α a))) (C := R_A) (T := T_A) (N := 12) hx hb hts iw_A hown hK.1 hP 9 rfl rfl 2 (by decide) (va_Nw.use rfl (hK.2.1 _ wd_164)) (fun _ h9 => h9) rfl d_X_underDeclared_8 ?_
  refine lv_icmp_ge (tgt := 48) hx hb d_X_underDeclared_11 (by decide) (fun c_1 => ?_) (fun c_1 => ?_)
  · have c_1 : sx_dN α a ≤ k := (nI_leI (by omega) (by omega)).mp c_1
    refine lv_lload_n hx hb d_X_underDeclared_48 rfl (lv_at hl 1 rfl) ?_
    exact W.lret (v := all) hx hb hr (fun t ht hW => ⟨all, rfl, (fun j hj => by rw [hJ j hj, show k = sx_dN α a by omega]; rfl), ht⟩) (fun _ h => by cases h) d_X_underDeclared_49
  · have c_1 : k < sx_dN α a := Nat.not_le.mp (fun z => c_1 ((nI_leI (by omega) (by omega)).mpr z))
    refine lv_aload_n hx hb d_X_underDeclared_14 rfl (lv_at hl 3 rfl) ?_
    refine va_getN (D := D) (ci := 0) (v := .ref (g 2)) (C := R_A) (T := T_A) (N := 12) hx hb hts iw_A hown hK.1 hP 9 rfl rfl 1 (by decide) (va_Nw.use rfl (hK.2.1 _ wd_162)) (fun _ h9 => h9) rfl d_X_underDeclared_15 ?_
    refine lv_iload hx hb d_X_underDeclared_18 (lv_at hl 0 rfl) ?_
    refine va_zald hx hb hK.1 hP 11 1 rfl rfl (vp_in_nI (by omega) (by decide)) d_X_underDeclared_20 ?_
    refine sx_asi (congrArg out (nI_clamp (by omega))) ?_
    refine sx_asi (hDO k (by omega)).2 ?_
    refine lv_iload_n hx hb d_X_underDeclared_21 rfl (lv_at hl 4 rfl) ?_
    refine lv_icmp_ne (tgt := 42) hx hb d_X_underDeclared_22 (by decide) (fun c_2 => ?_) (fun c_2 => ?_)
    · refine lv_iinc (v := nI (k + 1)) (lv' := [(5, .int (nI (k + 1))), (3, .long all), (0, .ref (h 0)), (1, .ref (g 0)), (2, .int (sx_bI ob))]) hx hb d_X_underDeclared_42 hl (k := 0) rfl (nI_1 k) (by decide) rfl (fun ls hl => ?_)
      refine lv_goto (tgt := 5) hx hb d_X_underDeclared_45 (by decide) ?_
      exact ih_5 (k + 1, all) (⟨by omega, sx_uD_f c_2 hJ⟩) (by omega) ls (lv_sub hl [0, 1, 2, 3, 4] rfl)
    · refine lv_lload_n hx hb d_X_underDeclared_25 rfl (lv_at hl 1 rfl) ?_
      refine lv_aload_n hx hb d_X_underDeclared_26 rfl (lv_at hl 2 rfl) ?_
      refine va_get (D := D) (ci := 3) (v := .ref (h 1)) (C := R_X) (T := T_X) (N := 6) hx hb hts iw_X hown hK.1 hP 0 rfl rfl 1 (by decide) (hts _ wd_70) (fun _ h9 => h9) rfl d_X_underDeclared_27 ?_
      refine lv_aload_n hx hb d_X_underDeclared_30 rfl (lv_at hl 3 rfl) ?_
      refine va_getN (D := D) (ci := 0) (v := .ref (g 1)) (C := R_A) (T := T_A) (N := 12) hx hb hts iw_A hown hK.1 hP 9 rfl rfl 0 (by decide) (va_Nw.use rfl (hK.2.1 _ wd_160)) (fun _ h9 => h9) rfl d_X_underDeclared_31 ?_
      refine lv_iload hx hb d_X_underDeclared_34 (lv_at hl 0 rfl) ?_
      refine va_iald hx hb hK.1 hP 10 0 rfl rfl (vp_in_nI (by omega) (by decide)) d_X_underDeclared_36 ?_
      refine sx_asi (congrArg dp (nI_clamp (by omega))) ?_
      obtain ⟨dp1, dp2, dp3⟩ := sx_dp_ok hn31 hAc (show k < sx_dN α a by omega)
      refine sx_asi ((hDO k (by omega)).1.trans dp3) ?_
      have hPc : va_P D vwCl (wP cA (h 1) (h 2) (h 3) (h 4) (h 5) (nI n) (α 1) (α 2) ab un) s.heap := hP.sub [1, 2, 3, 4, 5] rfl
      refine vp_callSl (va_runV (As := [.int (nI (sx_dp α a k))]) (rest := [.long all]) ⟨hx, hb, hml, hown, hts⟩ (k_under l D cA (h 1) (h 2) (h 3) (h 4) (h 5) n (α 1) (α 2) ab un (sx_dp α a k) (by omega) (by omega)) (cwV 1 hts (sx_GV wd_237 wd_238 wd_239 wd_3 wd_240) rfl rfl rfl (by decide +kernel) ⟨Nat.le_of_ble_eq_true rfl, Nat.le_of_ble_eq_true rfl⟩) (sx_preV hK hPc (va_recv hK.1 hPc (ci := 1) (q0 := 0) rfl rfl)) rfl rfl hl.1 rfl (lv_room (Nat.le_of_ble_eq_true rfl)) d_X_underDeclared_37 ⟨Nat.le_of_ble_eq_true rfl, Nat.le_of_ble_eq_true rfl⟩).run (fun r_4 hr_3 => ?_)
      subst hr_3
      refine lv_lor hx hb d_X_underDeclared_40 ?_
      refine lv_lstore_n (lv' := [(3, .long (all ||| (un (sx_dp α a k)))), (5, .int (nI k)), (0, .ref (h 0)), (1, .ref (g 0)), (2, .int (sx_bI ob))]) hx hb d_X_underDeclared_41 rfl hl (by decide) rfl (fun ls hl => ?_)
      refine lv_iinc (v := nI (k + 1)) (lv' := [(5, .int (nI (k + 1))), (3, .long (all ||| (un (sx_dp α a k)))), (0, .ref (h 0)), (1, .ref (g 0)), (2, .int (sx_bI ob))]) hx hb d_X_underDeclared_42 hl (k := 1) rfl (nI_1 k) (by decide) rfl (fun ls hl => ?_)
      refine lv_goto (tgt := 5) hx hb d_X_underDeclared_45 (by decide) ?_
      exact ih_5 (k + 1, all ||| un (sx_dp α a k)) (⟨by omega, sx_uD_t hR dp2 c_2 hJ⟩) (by omega) ls (lv_sub hl [0, 1, 2, 3, 4] rfl)

set_option maxHeartbeats 4000000 in
set_option maxRecDepth 100000 in
theorem k_scr (l : Launch) (D : va_G) (cA : Nat → ClassId) (h g : Nat → Nat) (lim ac sn : Int32) (n : Nat) (α : sx_A) (ab un : Nat → Int64) (sv : Nat → Int32) (sf sl : Int64) (acts : Nat → Option Nat) (a : Nat) (dp out : Nat → Int32) (th hw br ops rf : Int32) (tp : Nat → Int32) (tc : Int32) (ts : Int64) (wv : Nat → Int32) (wf wl : Int64) (na L : Nat) (hI : sx_INV n na L α) (ha : a < na) (hR : sx_RP n (α 1) ab un) (hDO : sx_DO α a dp out) : Met l y_X_scratch w_X_scratch ({ frames := 3, cells := 0, slots := 0, locals := 67 }) (sx_Pr D cA [.ref (h 0), .ref (g 0)] (wXA cA h g lim ac sn (nI n) (α 1) (α 2) ab un sv sf sl acts dp out (nI (sx_dN α a)) th hw br ops rf tp tc ts wv wf wl)) (vp_Sl (fun r => ∀ j, j < 64 → sx_bt r j = (decide (j < n) && sx_scr n α a j))) 0 0 (fun _ => False) := by
  refine Met.ofW (cc := b_X_scratch) (maxL := 3) (ret := (some .long)) (by decide) rfl ?_
  intro pG eG s m args below meth cG s₁ B hml hv
  obtain ⟨rfl, hP, hK⟩ := hv
  have hx := B.exec
  have hb := B.bytes
  have hr := B.returns
  have hts0 := atoms_spec (ws := w_X_scratch) B.pre
  have hts : ∀ w ∈ sx_gw, w.before _ s = true := fun w h => hts0 w (List.mem_cons_of_mem _ h)
  have hown : s.vm.findClass R_X = some m.cls := findClass_of_methodNamed B.named
  have hlocks := B.notSynchronized
  have hl := lv_entry ([.ref (h 0), .ref (g 0)]) (n := 3) (Nat.le_of_ble_eq_true rfl)
  rw [lg_entry_eq]
  generalize (lg_sl ([.ref (h 0), .ref (g 0)]) ++ List.replicate (3 - (lg_sl ([.ref (h 0), .ref (g 0)])).length) Slot.unset).toArray = ls at hl ⊢
  have hl : lv_has ls 3 [(0, .ref (h 0)), (1, .ref (g 0))] := hl
  have hn31 := sx_INV_n hI
  have hn60 := hI.1.1.2
  have h1n := hI.1.1.1
  have hAc := sx_INV_A hI ha
  have hd12 := (sx_dN_ok hAc).1
  refine lv_aload_n hx hb d_X_scratch_0 rfl (lv_at hl 0 rfl) ?_
  refine va_get (D := D) (ci := 3) (v := .ref (h 1)) (C := R_X) (T := T_X) (N := 6) hx hb hts iw_X hown hK.1 hP 0 rfl rfl 1 (by decide) (hts _ wd_70) (fun _ h9 => h9) rfl d_X_scratch_1 ?_
  refine lv_iconst (v := nI 0) hx hb d_X_scratch_4 (by decide +kernel) ?_
  refine lv_bipush (v := nI 122) hx hb d_X_scratch_5 (by decide +kernel) ?_
  have hPc : va_P D vwCl (wP cA (h 1) (h 2) (h 3) (h 4) (h 5) (nI n) (α 1) (α 2) ab un) s.heap := hP.sub [1, 2, 3, 4, 5] rfl
  refine vp_callSi (va_runV (As := [.int (nI 0), .int (nI 122)]) (rest := []) ⟨hx, hb, hml, hown, hts⟩ (k_find l D cA (h 1) (h 2) (h 3) (h 4) (h 5) n α ab un (by omega) (by omega) hI.2.2.2.1 (nI 0) (nI 122)) (cwV 2 hts (sx_GV wd_99 wd_100 wd_101 wd_3 wd_102) rfl rfl rfl (by decide +kernel) ⟨Nat.le_of_ble_eq_true rfl, Nat.le_of_ble_eq_true rfl⟩) (sx_preV hK hPc (va_recv hK.1 hPc (ci := 1) (q0 := 0) rfl rfl)) rfl rfl hl.1 rfl (lv_room (Nat.le_of_ble_eq_true rfl)) d_X_scratch_7 ⟨Nat.le_of_ble_eq_true rfl, Nat.le_of_ble_eq_true rfl⟩).run (fun r_2 hr_1 => ?_)
  subst hr_1
  refine lv_istore_n (lv' := [(2, .int (sx_ch α (nI 0) (nI 122) n)), (0, .ref (h 0)), (1, .ref (g 0))]) hx hb d_X_scratch_10 rfl hl (by decide) rfl (fun ls hl => ?_)
  refine lv_iload_n hx hb d_X_scratch_11 rfl (lv_at hl 0 rfl) ?_
  refine lv_iconst (v := (-1)) hx hb d_X_scratch_12 (by decide +kernel) ?_
  refine lv_icmp_ne (tgt := 18) hx hb d_X_scratch_13 (by decide) (fun c_3 => ?_) (fun c_3 => ?_)
  · obtain ⟨k, k0, k1, ek⟩ := sx_ch_pos (by omega) c_3
    rw [ek] at hl
    have hl : lv_has ls 3 [(2, .int (nI k)), (0, .ref (h 0)), (1, .ref (g 0))] := hl
    refine lv_aload_n hx hb d_X_scratch_18 rfl (lv_at hl 1 rfl) ?_
    refine va_get (D := D) (ci := 3) (v := .ref (h 1)) (C := R_X) (T := T_X) (N := 6) hx hb hts iw_X hown hK.1 hP 0 rfl rfl 1 (by decide) (hts _ wd_70) (fun _ h9 => h9) rfl d_X_scratch_19 ?_
    refine lv_iload_n hx hb d_X_scratch_22 rfl (lv_at hl 0 rfl) ?_
    have hPc : va_P D vwCl (wP cA (h 1) (h 2) (h 3) (h 4) (h 5) (nI n) (α 1) (α 2) ab un) s.heap := hP.sub [1, 2, 3, 4, 5] rfl
    refine vp_callSl (va_runV (As := [.int (nI k)]) (rest := []) ⟨hx, hb, hml, hown, hts⟩ (k_under l D cA (h 1) (h 2) (h 3) (h 4) (h 5) n (α 1) (α 2) ab un k (by omega) (by omega)) (cwV 1 hts (sx_GV wd_237 wd_238 wd_239 wd_3 wd_240) rfl rfl rfl (by decide +kernel) ⟨Nat.le_of_ble_eq_true rfl, Nat.le_of_ble_eq_true rfl⟩) (sx_preV hK hPc (va_recv hK.1 hPc (ci := 1) (q0 := 0) rfl rfl)) rfl rfl hl.1 rfl (lv_room (Nat.le_of_ble_eq_true rfl)) d_X_scratch_23 ⟨Nat.le_of_ble_eq_true rfl, Nat.le_of_ble_eq_true rfl⟩).run (fun r_5 hr_4 => ?_)
    subst hr_4
    refine lv_iload_n hx hb d_X_scratch_26 rfl (lv_at hl 0 rfl) ?_
    refine vp_callSl (va_runS (As := [.int (nI k)]) (rest := [.long (un k)]) ⟨hx, hb, hml, hown, hts⟩ (k_only l D cA k) (va_cwS 1 hts (sx_GS wd_111 wd_30 wd_1 wd_31) rfl rfl rfl (by decide +kernel) ⟨Nat.le_of_ble_eq_true rfl, Nat.le_of_ble_eq_true rfl⟩) (sx_preS hK (sx_P0 : va_P D vwCl [] s.heap)) rfl rfl hl.1 rfl (lv_room (Nat.le_of_ble_eq_true rfl)) d_X_scratch_27 ⟨Nat.le_of_ble_eq_true rfl, Nat.le_of_ble_eq_true rfl⟩).run (fun r_7 hr_6 => ?_)
    subst hr_6
    refine lv_ldc2 (own := R_X) (v := (-1)) hx hb hown (hts _ wd_296) d_X_scratch_30 ?_
    refine lv_lxor hx hb d_X_scratch_33 ?_
    refine lv_land hx hb d_X_scratch_34 ?_
    refine lv_aload_n hx hb d_X_scratch_35 rfl (lv_at hl 1 rfl) ?_
    refine lv_aload_n hx hb d_X_scratch_36 rfl (lv_at hl 2 rfl) ?_
    refine lv_iconst (v := nI 0) hx hb d_X_scratch_37 (by decide +kernel) ?_
    refine vp_callSl (va_runV (As := [.ref (g 0), .int (nI 0)]) (rest := [.long ((un k) &&& ((sx_on k) ^^^ (-1)))]) ⟨hx, hb, hml, hown, hts⟩ (k_underD l D cA h g lim ac sn n α ab un sv sf sl acts a dp out th hw br ops rf tp tc ts wv wf wl na L hI ha hR hDO false) (cwV 2 hts (sx_GV wd_245 wd_247 ws_3 wd_1 wd_248) rfl rfl rfl (by decide +kernel) ⟨Nat.le_of_ble_eq_true rfl, Nat.le_of_ble_eq_true rfl⟩) (sx_preV hK hP (va_recv hK.1 hP (ci := 3) (q0 := 0) rfl rfl)) rfl rfl hl.1 rfl (lv_room (Nat.le_of_ble_eq_true rfl)) d_X_scratch_38 ⟨Nat.le_of_ble_eq_true rfl, Nat.le_of_ble_eq_true rfl⟩).run (fun r_9 hr_8 => ?_)
    refine lv_ldc2 (own := R_X) (v := (-1)) hx hb hown (hts _ wd_296) d_X_scratch_41 ?_
    refine lv_lxor hx hb d_X_scratch_44 ?_
    refine lv_land hx hb d_X_scratch_45 ?_
    exact W.lret (v := ((un k) &&& ((sx_on k) ^^^ (-1))) &&& (r_9 ^^^ (-1))) hx hb hr (fun t ht hW => ⟨((un k) &&& ((sx_on k) ^^^ (-1))) &&& (r_9 ^^^ (-1)), rfl, sx_scr_1 hR hn60 k1 ek hr_8, ht⟩) (fun _ h => by cases h) d_X_scratch_46
  · refine lv_lconst (v := 0) hx hb d_X_scratch_16 (by decide +kernel) ?_
    exact W.lret (v := 0) hx hb hr (fun t ht hW => ⟨0, rfl, sx_scr_0 c_3, ht⟩) (fun _ h => by cases h) d_X_scratch_17

set_option maxHeartbeats 4000000 in
set_option maxRecDepth 100000 in
theorem k_wr (l : Launch) (D : va_G) (cA : Nat → ClassId) (h g : Nat → Nat) (lim ac sn : Int32) (n : Nat) (α : sx_A) (ab un : Nat → Int64) (sv : Nat → Int32) (sf sl : Int64) (acts : Nat → Option Nat) (a : Nat) (dp out : Nat → Int32) (th hw br ops rf : Int32) (tp : Nat → Int32) (tc : Int32) (ts : Int64) (wv : Nat → Int32) (wf wl : Int64) (na L : Nat) (hI : sx_INV n na L α) (ha : a < na) (hR : sx_RP n (α 1) ab un) (hDO : sx_DO α a dp out) : Met l y_X_writable w_X_writable ({ frames := 4, cells := 0, slots := 0, locals := 89 }) (sx_Pr D cA [.ref (h 0), .ref (g 0)] (wXA cA h g lim ac sn (nI n) (α 1) (α 2) ab un sv sf sl acts dp out (nI (sx_dN α a)) th hw br ops rf tp tc ts wv wf wl)) (vp_Sl (fun r => ∀ j, j < 64 → sx_bt r j = (decide (j < n) && sx_isW n α a j))) 0 0 (fun _ => False) := by
  refine Met.ofW (cc := b_X_writable) (maxL := 2) (ret := (some .long)) (by decide) rfl ?_
  intro pG eG s m args below meth cG s₁ B hml hv
  obtain ⟨rfl, hP, hK⟩ := hv
  have hx := B.exec
  have hb := B.bytes
  have hr := B.returns
  have hts0 := atoms_spec (ws := w_X_writable) B.pre
  have hts : ∀ w ∈ sx_gw, w.before _ s = true := fun w h => hts0 w (List.mem_cons_of_mem _ h)
  have hown : s.vm.findClass R_X = some m.cls := findClass_of_methodNamed B.named
  have hlocks := B.notSynchronized
  have hl := lv_entry ([.ref (h 0), .ref (g 0)]) (n := 2) (Nat.le_of_ble_eq_true rfl)
  rw [lg_entry_eq]
  generalize (lg_sl ([.ref (h 0), .ref (g 0)]) ++ List.replicate (2 - (lg_sl ([.ref (h 0), .ref (g 0)])).length) Slot.unset).toArray = ls at hl ⊢
  have hl : lv_has ls 2 [(0, .ref (h 0)), (1, .ref (g 0))] := hl
  refine lv_aload_n hx hb d_X_writable_0 rfl (lv_at hl 0 rfl) ?_
  refine lv_aload_n hx hb d_X_writable_1 rfl (lv_at hl 1 rfl) ?_
  refine lv_iconst (v := nI 1) hx hb d_X_writable_2 (by decide +kernel) ?_
  refine vp_callSl (va_runV (As := [.ref (g 0), .int (nI 1)]) (rest := []) ⟨hx, hb, hml, hown, hts⟩ (k_underD l D cA h g lim ac sn n α ab un sv sf sl acts a dp out th hw br ops rf tp tc ts wv wf wl na L hI ha hR hDO true) (cwV 2 hts (sx_GV wd_245 wd_247 ws_3 wd_1 wd_248) rfl rfl rfl (by decide +kernel) ⟨Nat.le_of_ble_eq_true rfl, Nat.le_of_ble_eq_true rfl⟩) (sx_preV hK hP (va_recv hK.1 hP (ci := 3) (q0 := 0) rfl rfl)) rfl rfl hl.1 rfl (lv_room (Nat.le_of_ble_eq_true rfl)) d_X_writable_3 ⟨Nat.le_of_ble_eq_true rfl, Nat.le_of_ble_eq_true rfl⟩).run (fun r_2 hr_1 => ?_)
  refine lv_aload_n hx hb d_X_writable_6 rfl (lv_at hl 0 rfl) ?_
  refine lv_aload_n hx hb d_X_writable_7 rfl (lv_at hl 1 rfl) ?_
  refine vp_callSl (va_runV (As := [.ref (g 0)]) (rest := [.long r_2]) ⟨hx, hb, hml, hown, hts⟩ (k_scr l D cA h g lim ac sn n α ab un sv sf sl acts a dp out th hw br ops rf tp tc ts wv wf wl na L hI ha hR hDO) (cwV 1 hts (sx_GV wd_292 wd_294 ws_7 wd_1 wd_295) rfl rfl rfl (by decide +kernel) ⟨Nat.le_of_ble_eq_true rfl, Nat.le_of_ble_eq_true rfl⟩) (sx_preV hK hP (va_recv hK.1 hP (ci := 3) (q0 := 0) rfl rfl)) rfl rfl hl.1 rfl (lv_room (Nat.le_of_ble_eq_true rfl)) d_X_writable_8 ⟨Nat.le_of_ble_eq_true rfl, Nat.le_of_ble_eq_true rfl⟩).run (fun r_4 hr_3 => ?_)
  refine lv_lor hx hb d_X_writable_11 ?_
  exact W.lret (v := r_2 ||| r_4) hx hb hr (fun t ht hW => ⟨r_2 ||| r_4, rfl, sx_wr_ok hr_1 hr_3, ht⟩) (fun _ h => by cases h) d_X_writable_12

set_option maxHeartbeats 4000000 in
set_option maxRecDepth 100000 in
theorem k_can (l : Launch) (D : va_G) (cA : Nat → ClassId) (h g : Nat → Nat) (lim ac sn : Int32) (n : Nat) (α : sx_A) (ab un : Nat → Int64) (sv : Nat → Int32) (sf sl : Int64) (acts : Nat → Option Nat) (a : Nat) (dp out : Nat → Int32) (th hw br ops rf : Int32) (tp : Nat → Int32) (tc : Int32) (ts : Int64) (wv : Nat → Int32) (wf wl : Int64) (na L : Nat) (hI : sx_INV n na L α) (ha : a < na) (hR : sx_RP n (α 1) ab un) (hDO : sx_DO α a dp out) (hW0 : sx_RW (sx_wd_ α a) wv wf wl) (p : Nat) (hpn : p < n) : Met l y_X_canPut w_X_canPut ({ frames := 5, cells := 0, slots := 0, locals := 110 }) (sx_Pr D cA [.ref (h 0), .ref (g 0), .int (nI p)] (wXA cA h g lim ac sn (nI n) (α 1) (α 2) ab un sv sf sl acts dp out (nI (sx_dN α a)) th hw br ops rf tp tc ts wv wf wl)) (vp_Si (fun r => r = sx_bI (sx_isW n α a p && !sx_inW n α a p))) 0 0 (fun _ => False) := by
  refine Met.ofW (cc := b_X_canPut) (maxL := 3) (ret := (some .boolean)) (by decide) rfl ?_
  intro pG eG s m args below meth cG s₁ B hml hv
  obtain ⟨rfl, hP, hK⟩ := hv
  have hx := B.exec
  have hb := B.bytes
  have hr := B.returns
  have hts0 := atoms_spec (ws := w_X_canPut) B.pre
  have hts : ∀ w ∈ sx_gw, w.before _ s = true := fun w h => hts0 w (List.mem_cons_of_mem _ h)
  have hown : s.vm.findClass R_X = some m.cls := findClass_of_methodNamed B.named
  have hlocks := B.notSynchronized
  have hl := lv_entry ([.ref (h 0), .ref (g 0), .int (nI p)]) (n := 3) (Nat.le_of_ble_eq_true rfl)
  rw [lg_entry_eq]
  generalize (lg_sl ([.ref (h 0), .ref (g 0), .int (nI p)]) ++ List.replicate (3 - (lg_sl ([.ref (h 0), .ref (g 0), .int (nI p)])).length) Slot.unset).toArray = ls at hl ⊢
  have hl : lv_has ls 3 [(0, .ref (h 0)), (1, .ref (g 0)), (2, .int (nI p))] := hl
  have hn31 := sx_INV_n hI
  have hn60 := hI.1.1.2
  have h1n := hI.1.1.1
  have hAc := sx_INV_A hI ha
  have hd12 := (sx_dN_ok hAc).1
  refine lv_aload_n hx hb d_X_canPut_0 rfl (lv_at hl 0 rfl) ?_
  refine lv_aload_n hx hb d_X_canPut_1 rfl (lv_at hl 1 rfl) ?_
  refine vp_callSl (va_runV (As := [.ref (g 0)]) (rest := []) ⟨hx, hb, hml, hown, hts⟩ (k_wr l D cA h g lim ac sn n α ab un sv sf sl acts a dp out th hw br ops rf tp tc ts wv wf wl na L hI ha hR hDO) (cwV 1 hts (sx_GV wd_288 wd_290 ws_6 wd_1 wd_291) rfl rfl rfl (by decide +kernel) ⟨Nat.le_of_ble_eq_true rfl, Nat.le_of_ble_eq_true rfl⟩) (sx_preV hK hP (va_recv hK.1 hP (ci := 3) (q0 := 0) rfl rfl)) rfl rfl hl.1 rfl (lv_room (Nat.le_of_ble_eq_true rfl)) d_X_canPut_2 ⟨Nat.le_of_ble_eq_true rfl, Nat.le_of_ble_eq_true rfl⟩).run (fun r_2 hr_1 => ?_)
  refine lv_iload_n hx hb d_X_canPut_5 rfl (lv_at hl 2 rfl) ?_
  refine vp_callSi (va_runS (As := [.long r_2, .int (nI p)]) (rest := []) ⟨hx, hb, hml, hown, hts⟩ (k_holds l D cA r_2 p (by omega)) (va_cwS 2 hts (sx_GS wd_220 wd_109 wd_1 wd_110) rfl rfl rfl (by decide +kernel) ⟨Nat.le_of_ble_eq_true rfl, Nat.le_of_ble_eq_true rfl⟩) (sx_preS hK (sx_P0 : va_P D vwCl [] s.heap)) rfl rfl hl.1 rfl (lv_room (Nat.le_of_ble_eq_true rfl)) d_X_canPut_6 ⟨Nat.le_of_ble_eq_true rfl, Nat.le_of_ble_eq_true rfl⟩).run (fun r_4 hr_3 => ?_)
  subst hr_3
  refine lv_if_eq (tgt := 37) hx hb d_X_canPut_9 (by decide) (fun c_5 => ?_) (fun c_5 => ?_)
  · have c_5 : (sx_bt r_2 p) = false := sx_bI0 c_5
    refine lv_iconst (v := nI 0) hx hb d_X_canPut_37 (by decide +kernel) ?_
    have w9 : sx_isW n α a p = false := by rw [hr_1 p (by omega), decide_eq_true hpn, Bool.true_and] at c_5; exact c_5
    exact W.zret (v := nI 0) (ty := .boolean) hx hb hr (by decide +kernel) (fun t ht hW => ⟨nI 0, rfl, sx_b0 (by rw [w9]; rfl), ht⟩) (fun _ h => by cases h) d_X_canPut_38
  · have c_5 : (sx_bt r_2 p) = true := sx_bIn c_5
    refine lv_aload_n hx hb d_X_canPut_12 rfl (lv_at hl 0 rfl) ?_
    refine va_get (D := D) (ci := 3) (v := .ref (h 1)) (C := R_X) (T := T_X) (N := 6) hx hb hts iw_X hown hK.1 hP 0 rfl rfl 1 (by decide) (hts _ wd_70) (fun _ h9 => h9) rfl d_X_canPut_13 ?_
    refine lv_iload_n hx hb d_X_canPut_16 rfl (lv_at hl 2 rfl) ?_
    have hPc : va_P D vwCl (wP cA (h 1) (h 2) (h 3) (h 4) (h 5) (nI n) (α 1) (α 2) ab un) s.heap := hP.sub [1, 2, 3, 4, 5] rfl
    refine vp_callSl (va_runV (As := [.int (nI p)]) (rest := []) ⟨hx, hb, hml, hown, hts⟩ (k_way l D cA (h 1) (h 2) (h 3) (h 4) (h 5) n (α 1) (α 2) ab un p (by omega) (by omega)) (cwV 1 hts (sx_GV wd_116 wd_117 wd_118 wd_3 wd_119) rfl rfl rfl (by decide +kernel) ⟨Nat.le_of_ble_eq_true rfl, Nat.le_of_ble_eq_true rfl⟩) (sx_preV hK hPc (va_recv hK.1 hPc (ci := 1) (q0 := 0) rfl rfl)) rfl rfl hl.1 rfl (lv_room (Nat.le_of_ble_eq_true rfl)) d_X_canPut_17 ⟨Nat.le_of_ble_eq_true rfl, Nat.le_of_ble_eq_true rfl⟩).run (fun r_7 hr_6 => ?_)
    subst hr_6
    refine lv_aload_n hx hb d_X_canPut_20 rfl (lv_at hl 1 rfl) ?_
    refine va_getN (D := D) (ci := 0) (v := .ref (g 3)) (C := R_A) (T := T_A) (N := 12) hx hb hts iw_A hown hK.1 hP 9 rfl rfl 3 (by decide) (va_Nw.use rfl (hK.2.1 _ wd_166)) (fun _ h9 => h9) rfl d_X_canPut_21 ?_
    have hPc : va_P D vwCl (wS cA (g 3) (g 4) wv wf wl) s.heap := hP.sub [12, 13] rfl
    refine vp_callSl (va_runV (As := []) (rest := [.long ((ab p ||| un p) &&& (sx_on p ^^^ (-1)))]) ⟨hx, hb, hml, hown, hts⟩ (k_taken l D cA (g 3) (g 4) wv wf wl ) (cwV 0 hts (sx_GV wd_121 wd_122 wd_123 wd_4 wd_124) rfl rfl rfl (by decide +kernel) ⟨Nat.le_of_ble_eq_true rfl, Nat.le_of_ble_eq_true rfl⟩) (sx_preV hK hPc (va_recv hK.1 hPc (ci := 2) (q0 := 0) rfl rfl)) rfl rfl hl.1 rfl (lv_room (Nat.le_of_ble_eq_true rfl)) d_X_canPut_24 ⟨Nat.le_of_ble_eq_true rfl, Nat.le_of_ble_eq_true rfl⟩).run (fun r_9 hr_8 => ?_)
    subst hr_8
    refine lv_land hx hb d_X_canPut_27 ?_
    refine lv_lconst (v := 0) hx hb d_X_canPut_28 (by decide +kernel) ?_
    refine W.lcmp hx hb d_X_canPut_29 ?_
    refine lv_if_ne (tgt := 37) hx hb d_X_canPut_30 (by decide) (fun c_10 => ?_) (fun c_10 => ?_)
    · have c_10 : ¬ (((ab p ||| un p) &&& (sx_on p ^^^ (-1))) &&& (wf ||| wl)) = 0 := fun z => c_10 (sx_cmp0.mpr z)
      refine lv_iconst (v := nI 0) hx hb d_X_canPut_37 (by decide +kernel) ?_
      have w9 : sx_isW n α a p = true := by rw [hr_1 p (by omega), decide_eq_true hpn, Bool.true_and] at c_5; exact c_5
      exact W.zret (v := nI 0) (ty := .boolean) hx hb hr (by decide +kernel) (fun t ht hW => ⟨nI 0, rfl, sx_b0 (by rw [w9, sx_nf (fun z => c_10 ((sx_inW_iff hR hn60 hpn (fun j hj z => ((sx_INV_A hI ha).2.2.2.2.1 j hj).2 z) hW0).mpr z))]; rfl), ht⟩) (fun _ h => by cases h) d_X_canPut_38
    · have c_10 : ((ab p ||| un p) &&& (sx_on p ^^^ (-1))) &&& (wf ||| wl) = 0 := sx_cmp0.mp c_10
      refine lv_iconst (v := nI 1) hx hb d_X_canPut_33 (by decide +kernel) ?_
      refine lv_goto (tgt := 38) hx hb d_X_canPut_34 (by decide) ?_
      have w9 : sx_isW n α a p = true := by rw [hr_1 p (by omega), decide_eq_true hpn, Bool.true_and] at c_5; exact c_5
      exact W.zret (v := nI 1) (ty := .boolean) hx hb hr (by decide +kernel) (fun t ht hW => ⟨nI 1, rfl, sx_b1 (by rw [w9, (sx_inW_iff hR hn60 hpn (fun j hj z => ((sx_INV_A hI ha).2.2.2.2.1 j hj).2 z) hW0).mp c_10]; rfl), ht⟩) (fun _ h => by cases h) d_X_canPut_38

set_option maxHeartbeats 4000000 in
set_option maxRecDepth 100000 in
theorem k_touch (l : Launch) (D : va_G) (cA : Nat → ClassId) (h g : Nat → Nat) (lim ac sn : Int32) (n : Nat) (α : sx_A) (ab un : Nat → Int64) (sv : Nat → Int32) (sf sl : Int64) (acts : Nat → Option Nat) (a : Nat) (dp out : Nat → Int32) (th hw br ops rf : Int32) (tp : Nat → Int32) (tc : Int32) (ts : Int64) (wv : Nat → Int32) (wf wl : Int64) (na L : Nat) (hI : sx_INV n na L α) (ha : a < na) (hR : sx_RP n (α 1) ab un) (hDO : sx_DO α a dp out) (p : Nat) (hpn : p < n) : Met l y_X_touchesDeclared w_X_touchesDeclared ({ frames := 2, cells := 0, slots := 0, locals := 42 }) (sx_Pr D cA [.ref (h 0), .ref (g 0), .int (nI p)] (wXA cA h g lim ac sn (nI n) (α 1) (α 2) ab un sv sf sl acts dp out (nI (sx_dN α a)) th hw br ops rf tp tc ts wv wf wl)) (vp_Si (fun r => r = sx_bI (sx_decT α a p))) 0 0 (fun _ => False) := by
  refine Met.ofW (cc := b_X_touchesDeclared) (maxL := 6) (ret := (some .boolean)) (by decide) rfl ?_
  intro pG eG s m args below meth cG s₁ B hml hv
  obtain ⟨rfl, hP, hK⟩ := hv
  have hx := B.exec
  have hb := B.bytes
  have hr := B.returns
  have hts0 := atoms_spec (ws := w_X_touchesDeclared) B.pre
  have hts : ∀ w ∈ sx_gw, w.before _ s = true := fun w h => hts0 w (List.mem_cons_of_mem _ h)
  have hown : s.vm.findClass R_X = some m.cls := findClass_of_methodNamed B.named
  have hlocks := B.notSynchronized
  have hl := lv_entry ([.ref (h 0), .ref (g 0), .int (nI p)]) (n := 6) (Nat.le_of_ble_eq_true rfl)
  rw [lg_entry_eq]
  generalize (lg_sl ([.ref (h 0), .ref (g 0), .int (nI p)]) ++ List.replicate (6 - (lg_sl ([.ref (h 0), .ref (g 0), .int (nI p)])).length) Slot.unset).toArray = ls at hl ⊢
  have hl : lv_has ls 6 [(0, .ref (h 0)), (1, .ref (g 0)), (2, .int (nI p))] := hl
  have hn31 := sx_INV_n hI
  have hn60 := hI.1.1.2
  have h1n := hI.1.1.1
  have hAc := sx_INV_A hI ha
  have hd12 := (sx_dN_ok hAc).1
  refine lv_aload_n hx hb d_X_touchesDeclared_0 rfl (lv_at hl 0 rfl) ?_
  refine va_get (D := D) (ci := 3) (v := .ref (h 1)) (C := R_X) (T := T_X) (N := 6) hx hb hts iw_X hown hK.1 hP 0 rfl rfl 1 (by decide) (hts _ wd_70) (fun _ h9 => h9) rfl d_X_touchesDeclared_1 ?_
  refine lv_iload_n hx hb d_X_touchesDeclared_4 rfl (lv_at hl 2 rfl) ?_
  have hPc : va_P D vwCl (wP cA (h 1) (h 2) (h 3) (h 4) (h 5) (nI n) (α 1) (α 2) ab un) s.heap := hP.sub [1, 2, 3, 4, 5] rfl
  refine vp_callSl (va_runV (As := [.int (nI p)]) (rest := []) ⟨hx, hb, hml, hown, hts⟩ (k_way l D cA (h 1) (h 2) (h 3) (h 4) (h 5) n (α 1) (α 2) ab un p (by omega) (by omega)) (cwV 1 hts (sx_GV wd_116 wd_117 wd_118 wd_3 wd_119) rfl rfl rfl (by decide +kernel) ⟨Nat.le_of_ble_eq_true rfl, Nat.le_of_ble_eq_true rfl⟩) (sx_preV hK hPc (va_recv hK.1 hPc (ci := 1) (q0 := 0) rfl rfl)) rfl rfl hl.1 rfl (lv_room (Nat.le_of_ble_eq_true rfl)) d_X_touchesDeclared_5 ⟨Nat.le_of_ble_eq_true rfl, Nat.le_of_ble_eq_true rfl⟩).run (fun r_2 hr_1 => ?_)
  subst hr_1
  refine lv_iload_n hx hb d_X_touchesDeclared_8 rfl (lv_at hl 2 rfl) ?_
  refine vp_callSl (va_runS (As := [.int (nI p)]) (rest := [.long ((ab p ||| un p) &&& (sx_on p ^^^ (-1)))]) ⟨hx, hb, hml, hown, hts⟩ (k_only l D cA p) (va_cwS 1 hts (sx_GS wd_111 wd_30 wd_1 wd_31) rfl rfl rfl (by decide +kernel) ⟨Nat.le_of_ble_eq_true rfl, Nat.le_of_ble_eq_true rfl⟩) (sx_preS hK (sx_P0 : va_P D vwCl [] s.heap)) rfl rfl hl.1 rfl (lv_room (Nat.le_of_ble_eq_true rfl)) d_X_touchesDeclared_9 ⟨Nat.le_of_ble_eq_true rfl, Nat.le_of_ble_eq_true rfl⟩).run (fun r_4 hr_3 => ?_)
  subst hr_3
  refine lv_lor hx hb d_X_touchesDeclared_12 ?_
  refine lv_lstore_n (lv' := [(3, .long (((ab p ||| un p) &&& (sx_on p ^^^ (-1))) ||| (sx_on p))), (0, .ref (h 0)), (1, .ref (g 0)), (2, .int (nI p))]) hx hb d_X_touchesDeclared_13 rfl hl (by decide) rfl (fun ls hl => ?_)
  refine lv_iconst (v := nI 0) hx hb d_X_touchesDeclared_14 (by decide +kernel) ?_
  refine lv_istore (lv' := [(5, .int (nI 0)), (3, .long (((ab p ||| un p) &&& (sx_on p ^^^ (-1))) ||| (sx_on p))), (0, .ref (h 0)), (1, .ref (g 0)), (2, .int (nI p))]) hx hb d_X_touchesDeclared_15 hl (by decide) rfl (fun ls hl => ?_)
  refine sx_loop (σ := Nat) (fun x => x ≤ sx_dN α a ∧ sx_any (fun z => sx_U (α 1) p (sx_dp α a z) || sx_U (α 1) (sx_dp α a z) p) x = false) (fun x => [(5, .int (nI x)), (3, .long (((ab p ||| un p) &&& (sx_on p ^^^ (-1))) ||| (sx_on p))), (0, .ref (h 0)), (1, .ref (g 0)), (2, .int (nI p))]) (fun x => sx_dN α a - x) 0 (⟨Nat.zero_le _, rfl⟩) (lv_sub hl [0, 1, 2, 3, 4] rfl) (fun x hJ ih ls hl => ?_)
  obtain ⟨k, rfl⟩ : ∃ y, y = x := ⟨_, rfl⟩
  obtain ⟨hk, hJ⟩ := hJ
  have hl : lv_has ls 6 [(5, .int (nI k)), (3, .long (((ab p ||| un p) &&& (sx_on p ^^^ (-1))) ||| (sx_on p))), (0, .ref (h 0)), (1, .ref (g 0)), (2, .int (nI p))] := hl
  have ih_17 := ih
  refine lv_iload hx hb d_X_touchesDeclared_17 (lv_at hl 0 rfl) ?_
  refine lv_aload_n hx hb d_X_touchesDeclared_19 rfl (lv_at hl 3 rfl) ?_
  refine va_getN (D := D) (ci := 0) (v := .int (nI (sx_dN α a))) (C := R_A) (T := T_A) (N := 12) hx hb hts iw_A hown hK.1 hP 9 rfl rfl 2 (by decide) (va_Nw.use rfl (hK.2.1 _ wd_164)) (fun _ h9 => h9) rfl d_X_touchesDeclared_20 ?_
  refine lv_icmp_ge (tgt := 48) hx hb d_X_touchesDeclared_23 (by decide) (fun c_5 => ?_) (fun c_5 => ?_)
  · have c_5 : sx_dN α a ≤ k := (nI_leI (by omega) (by omega)).mp c_5
    refine lv_iconst (v := nI 0) hx hb d_X_touchesDeclared_48 (by decide +kernel) ?_
    exact W.zret (v := nI 0) (ty := .boolean) hx hb hr (by decide +kernel) (fun t ht hW => ⟨nI 0, rfl, sx_b0 (by unfold sx_decT; rw [show sx_dN α a = k by omega]; exact hJ), ht⟩) (fun _ h => by cases h) d_X_touchesDeclared_49
  · have c_5 : k < sx_dN α a := Nat.not_le.mp (fun z => c_5 ((nI_leI (by omega) (by omega)).mpr z))
    refine lv_lload_n hx hb d_X_touchesDeclared_26 rfl (lv_at hl 1 rfl) ?_
    refine lv_aload_n hx hb d_X_touchesDeclared_27 rfl (lv_at hl 3 rfl) ?_
    refine va_getN (D := D) (ci := 0) (v := .ref (g 1)) (C := R_A) (T := T_A) (N := 12) hx hb hts iw_A hown hK.1 hP 9 rfl rfl 0 (by decide) (va_Nw.use rfl (hK.2.1 _ wd_160)) (fun _ h9 => h9) rfl d_X_touchesDeclared_28 ?_
    refine lv_iload hx hb d_X_touchesDeclared_31 (lv_at hl 0 rfl) ?_
    refine va_iald hx hb hK.1 hP 10 0 rfl rfl (vp_in_nI (by omega) (by decide)) d_X_touchesDeclared_33 ?_
    refine sx_asi (congrArg dp (nI_clamp (by omega))) ?_
    obtain ⟨dp1, dp2, dp3⟩ := sx_dp_ok hn31 hAc (show k < sx_dN α a by omega)
    refine sx_asi ((hDO k (by omega)).1.trans dp3) ?_
    refine vp_callSi (va_runS (As := [.long (((ab p ||| un p) &&& (sx_on p ^^^ (-1))) ||| (sx_on p)), .int (nI (sx_dp α a k))]) (rest := []) ⟨hx, hb, hml, hown, hts⟩ (k_holds l D cA (((ab p ||| un p) &&& (sx_on p ^^^ (-1))) ||| (sx_on p)) (sx_dp α a k) (by omega)) (va_cwS 2 hts (sx_GS wd_220 wd_109 wd_1 wd_110) rfl rfl rfl (by decide +kernel) ⟨Nat.le_of_ble_eq_true rfl, Nat.le_of_ble_eq_true rfl⟩) (sx_preS hK (sx_P0 : va_P D vwCl [] s.heap)) rfl rfl hl.1 rfl (lv_room (Nat.le_of_ble_eq_true rfl)) d_X_touchesDeclared_34 ⟨Nat.le_of_ble_eq_true rfl, Nat.le_of_ble_eq_true rfl⟩).run (fun r_7 hr_6 => ?_)
    subst hr_6
    refine lv_if_eq (tgt := 42) hx hb d_X_touchesDeclared_37 (by decide) (fun c_8 => ?_) (fun c_8 => ?_)
    · have c_8 : (sx_bt (((ab p ||| un p) &&& (sx_on p ^^^ (-1))) ||| (sx_on p)) (sx_dp α a k)) = false := sx_bI0 c_8
      refine lv_iinc (v := nI (k + 1)) (lv' := [(5, .int (nI (k + 1))), (3, .long (((ab p ||| un p) &&& (sx_on p ^^^ (-1))) ||| (sx_on p))), (0, .ref (h 0)), (1, .ref (g 0)), (2, .int (nI p))]) hx hb d_X_touchesDeclared_42 hl (k := 0) rfl (nI_1 k) (by decide) rfl (fun ls hl => ?_)
      refine lv_goto (tgt := 17) hx hb d_X_touchesDeclared_45 (by decide) ?_
      exact ih_17 (k + 1) (⟨by omega, sx_any_s hJ (by rw [← sx_way_bit hR hn60 hpn dp2]; exact c_8)⟩) (by omega) ls (lv_sub hl [0, 1, 2, 3, 4] rfl)
    · have c_8 : (sx_bt (((ab p ||| un p) &&& (sx_on p ^^^ (-1))) ||| (sx_on p)) (sx_dp α a k)) = true := sx_bIn c_8
      refine lv_iconst (v := nI 1) hx hb d_X_touchesDeclared_40 (by decide +kernel) ?_
      exact W.zret (v := nI 1) (ty := .boolean) hx hb hr (by decide +kernel) (fun t ht hW => ⟨nI 1, rfl, sx_b1 (sx_any_t.mpr ⟨k, by omega, by rw [← sx_way_bit hR hn60 hpn dp2]; exact c_8⟩), ht⟩) (fun _ h => by cases h) d_X_touchesDeclared_41

set_option maxHeartbeats 4000000 in
set_option maxRecDepth 100000 in
theorem k_lack (l : Launch) (D : va_G) (cA : Nat → ClassId) (h g : Nat → Nat) (lim ac sn : Int32) (n : Nat) (α : sx_A) (ab un : Nat → Int64) (sv : Nat → Int32) (sf sl : Int64) (acts : Nat → Option Nat) (a : Nat) (dp out : Nat → Int32) (th hw br ops rf : Int32) (tp : Nat → Int32) (tc : Int32) (ts : Int64) (wv : Nat → Int32) (wf wl : Int64) (na L : Nat) (hI : sx_INV n na L α) (ha : a < na) (hR : sx_RP n (α 1) ab un) (hDO : sx_DO α a dp out) (hS0 : sx_RW (α 3) sv sf sl) : Met l y_X_lacksInput w_X_lacksInput ({ frames := 2, cells := 0, slots := 0, locals := 42 }) (sx_Pr D cA [.ref (h 0), .ref (g 0)] (wXA cA h g lim ac sn (nI n) (α 1) (α 2) ab un sv sf sl acts dp out (nI (sx_dN α a)) th hw br ops rf tp tc ts wv wf wl)) (vp_Si (fun r => r = sx_bI (sx_lack n α a))) 0 0 (fun _ => False) := by
  refine Met.ofW (cc := b_X_lacksInput) (maxL := 5) (ret := (some .boolean)) (by decide) rfl ?_
  intro pG eG s m args below meth cG s₁ B hml hv
  obtain ⟨rfl, hP, hK⟩ := hv
  have hx := B.exec
  have hb := B.bytes
  have hr := B.returns
  have hts0 := atoms_spec (ws := w_X_lacksInput) B.pre
  have hts : ∀ w ∈ sx_gw, w.before _ s = true := fun w h => hts0 w (List.mem_cons_of_mem _ h)
  have hown : s.vm.findClass R_X = some m.cls := findClass_of_methodNamed B.named
  have hlocks := B.notSynchronized
  have hl := lv_entry ([.ref (h 0), .ref (g 0)]) (n := 5) (Nat.le_of_ble_eq_true rfl)
  rw [lg_entry_eq]
  generalize (lg_sl ([.ref (h 0), .ref (g 0)]) ++ List.replicate (5 - (lg_sl ([.ref (h 0), .ref (g 0)])).length) Slot.unset).toArray = ls at hl ⊢
  have hl : lv_has ls 5 [(0, .ref (h 0)), (1, .ref (g 0))] := hl
  have hn31 := sx_INV_n hI
  have hn60 := hI.1.1.2
  have h1n := hI.1.1.1
  have hAc := sx_INV_A hI ha
  have hd12 := (sx_dN_ok hAc).1
  refine lv_iconst (v := nI 0) hx hb d_X_lacksInput_0 (by decide +kernel) ?_
  refine lv_istore_n (lv' := [(2, .int (nI 0)), (0, .ref (h 0)), (1, .ref (g 0))]) hx hb d_X_lacksInput_1 rfl hl (by decide) rfl (fun ls hl => ?_)
  refine sx_loop (σ := Nat) (fun x => x ≤ sx_dN α a ∧ sx_any (fun z => decide (α 11 (12 * a + z) = 0) && !sx_hasS n α (sx_dp α a z)) x = false) (fun x => [(2, .int (nI x)), (0, .ref (h 0)), (1, .ref (g 0))]) (fun x => sx_dN α a - x) 0 (⟨Nat.zero_le _, rfl⟩) (lv_sub hl [0, 1, 2] rfl) (fun x hJ ih ls hl => ?_)
  obtain ⟨k, rfl⟩ : ∃ y, y = x := ⟨_, rfl⟩
  obtain ⟨hk, hJ⟩ := hJ
  have hl : lv_has ls 5 [(2, .int (nI k)), (0, .ref (h 0)), (1, .ref (g 0))] := hl
  have ih_2 := ih
  refine lv_iload_n hx hb d_X_lacksInput_2 rfl (lv_at hl 0 rfl) ?_
  refine lv_aload_n hx hb d_X_lacksInput_3 rfl (lv_at hl 2 rfl) ?_
  refine va_getN (D := D) (ci := 0) (v := .int (nI (sx_dN α a))) (C := R_A) (T := T_A) (N := 12) hx hb hts iw_A hown hK.1 hP 9 rfl rfl 2 (by decide) (va_Nw.use rfl (hK.2.1 _ wd_164)) (fun _ h9 => h9) rfl d_X_lacksInput_4 ?_
  refine lv_icmp_ge (tgt := 55) hx hb d_X_lacksInput_7 (by decide) (fun c_1 => ?_) (fun c_1 => ?_)
  · have c_1 : sx_dN α a ≤ k := (nI_leI (by omega) (by omega)).mp c_1
    refine lv_iconst (v := nI 0) hx hb d_X_lacksInput_55 (by decide +kernel) ?_
    exact W.zret (v := nI 0) (ty := .boolean) hx hb hr (by decide +kernel) (fun t ht hW => ⟨nI 0, rfl, sx_b0 (by unfold sx_lack; rw [show sx_dN α a = k by omega]; exact hJ), ht⟩) (fun _ h => by cases h) d_X_lacksInput_56
  · have c_1 : k < sx_dN α a := Nat.not_le.mp (fun z => c_1 ((nI_leI (by omega) (by omega)).mpr z))
    refine lv_aload_n hx hb d_X_lacksInput_10 rfl (lv_at hl 2 rfl) ?_
    refine va_getN (D := D) (ci := 0) (v := .ref (g 2)) (C := R_A) (T := T_A) (N := 12) hx hb hts iw_A hown hK.1 hP 9 rfl rfl 1 (by decide) (va_Nw.use rfl (hK.2.1 _ wd_162)) (fun _ h9 => h9) rfl d_X_lacksInput_11 ?_
    refine lv_iload_n hx hb d_X_lacksInput_14 rfl (lv_at hl 0 rfl) ?_
    refine va_zald hx hb hK.1 hP 11 1 rfl rfl (vp_in_nI (by omega) (by decide)) d_X_lacksInput_15 ?_
    refine sx_asi (congrArg out (nI_clamp (by omega))) ?_
    refine sx_asi (hDO k (by omega)).2 ?_
    refine lv_if_ne (tgt := 49) hx hb d_X_lacksInput_16 (by decide) (fun c_2 => ?_) (fun c_2 => ?_)
    · refine lv_iinc (v := nI (k + 1)) (lv' := [(2, .int (nI (k + 1))), (0, .ref (h 0)), (1, .ref (g 0))]) hx hb d_X_lacksInput_49 hl (k := 0) rfl (nI_1 k) (by decide) rfl (fun ls hl => ?_)
      refine lv_goto (tgt := 2) hx hb d_X_lacksInput_52 (by decide) ?_
      exact ih_2 (k + 1) (⟨by omega, sx_any_s hJ (by rw [decide_eq_false c_2]; rfl)⟩) (by omega) ls (lv_sub hl [0, 1, 2] rfl)
    · refine lv_aload_n hx hb d_X_lacksInput_19 rfl (lv_at hl 1 rfl) ?_
      refine va_get (D := D) (ci := 3) (v := .ref (h 1)) (C := R_X) (T := T_X) (N := 6) hx hb hts iw_X hown hK.1 hP 0 rfl rfl 1 (by decide) (hts _ wd_70) (fun _ h9 => h9) rfl d_X_lacksInput_20 ?_
      refine lv_aload_n hx hb d_X_lacksInput_23 rfl (lv_at hl 2 rfl) ?_
      refine va_getN (D := D) (ci := 0) (v := .ref (g 1)) (C := R_A) (T := T_A) (N := 12) hx hb hts iw_A hown hK.1 hP 9 rfl rfl 0 (by decide) (va_Nw.use rfl (hK.2.1 _ wd_160)) (fun _ h9 => h9) rfl d_X_lacksInput_24 ?_
      refine lv_iload_n hx hb d_X_lacksInput_27 rfl (lv_at hl 0 rfl) ?_
      refine va_iald hx hb hK.1 hP 10 0 rfl rfl (vp_in_nI (by omega) (by decide)) d_X_lacksInput_28 ?_
      refine sx_asi (congrArg dp (nI_clamp (by omega))) ?_
      obtain ⟨dp1, dp2, dp3⟩ := sx_dp_ok hn31 hAc (show k < sx_dN α a by omega)
      refine sx_asi ((hDO k (by omega)).1.trans dp3) ?_
      have hPc : va_P D vwCl (wP cA (h 1) (h 2) (h 3) (h 4) (h 5) (nI n) (α 1) (α 2) ab un) s.heap := hP.sub [1, 2, 3, 4, 5] rfl
      refine vp_callSl (va_runV (As := [.int (nI (sx_dp α a k))]) (rest := []) ⟨hx, hb, hml, hown, hts⟩ (k_under l D cA (h 1) (h 2) (h 3) (h 4) (h 5) n (α 1) (α 2) ab un (sx_dp α a k) (by omega) (by omega)) (cwV 1 hts (sx_GV wd_237 wd_238 wd_239 wd_3 wd_240) rfl rfl rfl (by decide +kernel) ⟨Nat.le_of_ble_eq_true rfl, Nat.le_of_ble_eq_true rfl⟩) (sx_preV hK hPc (va_recv hK.1 hPc (ci := 1) (q0 := 0) rfl rfl)) rfl rfl hl.1 rfl (lv_room (Nat.le_of_ble_eq_true rfl)) d_X_lacksInput_29 ⟨Nat.le_of_ble_eq_true rfl, Nat.le_of_ble_eq_true rfl⟩).run (fun r_4 hr_3 => ?_)
      subst hr_3
      refine lv_lstore_n (lv' := [(3, .long (un (sx_dp α a k))), (2, .int (nI k)), (0, .ref (h 0)), (1, .ref (g 0))]) hx hb d_X_lacksInput_32 rfl hl (by decide) rfl (fun ls hl => ?_)
      refine lv_lload_n hx hb d_X_lacksInput_33 rfl (lv_at hl 0 rfl) ?_
      refine lv_aload_n hx hb d_X_lacksInput_34 rfl (lv_at hl 2 rfl) ?_
      refine va_get (D := D) (ci := 3) (v := .ref (h 6)) (C := R_X) (T := T_X) (N := 6) hx hb hts iw_X hown hK.1 hP 0 rfl rfl 2 (by decide) (hts _ wd_71) (fun _ h9 => h9) rfl d_X_lacksInput_35 ?_
      have hPc : va_P D vwCl (wS cA (h 6) (h 7) sv sf sl) s.heap := hP.sub [6, 7] rfl
      refine vp_callSl (va_runV (As := []) (rest := [.long (un (sx_dp α a k))]) ⟨hx, hb, hml, hown, hts⟩ (k_taken l D cA (h 6) (h 7) sv sf sl ) (cwV 0 hts (sx_GV wd_121 wd_122 wd_123 wd_4 wd_124) rfl rfl rfl (by decide +kernel) ⟨Nat.le_of_ble_eq_true rfl, Nat.le_of_ble_eq_true rfl⟩) (sx_preV hK hPc (va_recv hK.1 hPc (ci := 2) (q0 := 0) rfl rfl)) rfl rfl hl.1 rfl (lv_room (Nat.le_of_ble_eq_true rfl)) d_X_lacksInput_38 ⟨Nat.le_of_ble_eq_true rfl, Nat.le_of_ble_eq_true rfl⟩).run (fun r_6 hr_5 => ?_)
      subst hr_5
      refine lv_land hx hb d_X_lacksInput_41 ?_
      refine lv_lconst (v := 0) hx hb d_X_lacksInput_42 (by decide +kernel) ?_
      refine W.lcmp hx hb d_X_lacksInput_43 ?_
      refine lv_if_ne (tgt := 49) hx hb d_X_lacksInput_44 (by decide) (fun c_7 => ?_) (fun c_7 => ?_)
      · have c_7 : ¬ ((un (sx_dp α a k)) &&& (sf ||| sl)) = 0 := fun z => c_7 (sx_cmp0.mpr z)
        refine lv_iinc (v := nI (k + 1)) (lv' := [(2, .int (nI (k + 1))), (3, .long (un (sx_dp α a k))), (0, .ref (h 0)), (1, .ref (g 0))]) hx hb d_X_lacksInput_49 hl (k := 1) rfl (nI_1 k) (by decide) rfl (fun ls hl => ?_)
        refine lv_goto (tgt := 2) hx hb d_X_lacksInput_52 (by decide) ?_
        exact ih_2 (k + 1) (⟨by omega, sx_any_s hJ (by rw [sx_nf (fun z => c_7 ((sx_hasS_iff hR hn60 dp2 hI.2.2.2.2.1 hS0).mpr z))]; simp)⟩) (by omega) ls (lv_sub hl [0, 2, 3] rfl)
      · have c_7 : (un (sx_dp α a k)) &&& (sf ||| sl) = 0 := sx_cmp0.mp c_7
        refine lv_iconst (v := nI 1) hx hb d_X_lacksInput_47 (by decide +kernel) ?_
        exact W.zret (v := nI 1) (ty := .boolean) hx hb hr (by decide +kernel) (fun t ht hW => ⟨nI 1, rfl, sx_b1 (sx_any_t.mpr ⟨k, by omega, by rw [decide_eq_true c_2, (sx_hasS_iff hR hn60 dp2 hI.2.2.2.2.1 hS0).mp c_7]; rfl⟩), ht⟩) (fun _ h => by cases h) d_X_lacksInput_48

set_option maxHeartbeats 4000000 in
set_option maxRecDepth 100000 in
theorem k_fault (l : Launch) (D : va_G) (cA : Nat → ClassId) (h g : Nat → Nat) (lim ac sn : Int32) (n : Nat) (α : sx_A) (ab un : Nat → Int64) (sv : Nat → Int32) (sf sl : Int64) (acts : Nat → Option Nat) (a : Nat) (dp out : Nat → Int32) (th hw br ops rf : Int32) (tp : Nat → Int32) (tc : Int32) (ts : Int64) (wv : Nat → Int32) (wf wl : Int64) (na L : Nat) (hI : sx_INV n na L α) (ha : a < na) (hR : sx_RP n (α 1) ab un) (hDO : sx_DO α a dp out) (hW0 : sx_RW (sx_wd_ α a) wv wf wl) : Met l y_X_firstOutputFault w_X_firstOutputFault ({ frames := 4, cells := 0, slots := 0, locals := 88 }) (sx_Pr D cA [.ref (h 0), .ref (g 0)] (wXA cA h g lim ac sn (nI n) (α 1) (α 2) ab un sv sf sl acts dp out (nI (sx_dN α a)) th hw br ops rf tp tc ts wv wf wl)) (vp_Si (fun r => r = sx_fl n α a (sx_dN α a) 0 0)) 0 0 (fun _ => False) := by
  refine Met.ofW (cc := b_X_firstOutputFault) (maxL := 6) (ret := (some .int)) (by decide) rfl ?_
  intro pG eG s m args below meth cG s₁ B hml hv
  obtain ⟨rfl, hP, hK⟩ := hv
  have hx := B.exec
  have hb := B.bytes
  have hr := B.returns
  have hts0 := atoms_spec (ws := w_X_firstOutputFault) B.pre
  have hts : ∀ w ∈ sx_gw, w.before _ s = true := fun w h => hts0 w (List.mem_cons_of_mem _ h)
  have hown : s.vm.findClass R_X = some m.cls := findClass_of_methodNamed B.named
  have hlocks := B.notSynchronized
  have hl := lv_entry ([.ref (h 0), .ref (g 0)]) (n := 6) (Nat.le_of_ble_eq_true rfl)
  rw [lg_entry_eq]
  generalize (lg_sl ([.ref (h 0), .ref (g 0)]) ++ List.replicate (6 - (lg_sl ([.ref (h 0), .ref (g 0)])).length) Slot.unset).toArray = ls at hl ⊢
  have hl : lv_has ls 6 [(0, .ref (h 0)), (1, .ref (g 0))] := hl
  have hn31 := sx_INV_n hI
  have hn60 := hI.1.1.2
  have h1n := hI.1.1.1
  have hAc := sx_INV_A hI ha
  have hd12 := (sx_dN_ok hAc).1
  refine lv_iconst (v := nI 0) hx hb d_X_firstOutputFault_0 (by decide +kernel) ?_
  refine lv_istore_n (lv' := [(2, .int (nI 0)), (0, .ref (h 0)), (1, .ref (g 0))]) hx hb d_X_firstOutputFault_1 rfl hl (by decide) rfl (fun ls hl => ?_)
  refine lv_iconst (v := nI 0) hx hb d_X_firstOutputFault_2 (by decide +kernel) ?_
  refine lv_istore_n (lv' := [(3, .int (nI 0)), (2, .int (nI 0)), (0, .ref (h 0)), (1, .ref (g 0))]) hx hb d_X_firstOutputFault_3 rfl hl (by decide) rfl (fun ls hl => ?_)
  refine sx_loop (σ := Nat × Nat) (fun x => x.1 ≤ sx_dN α a ∧ x.2 ≤ x.1 ∧ sx_fl n α a (sx_dN α a) 0 0 = sx_fl n α a (sx_dN α a - x.1) x.1 x.2) (fun x => [(3, .int (nI x.1)), (2, .int (nI x.2)), (0, .ref (h 0)), (1, .ref (g 0))]) (fun x => sx_dN α a - x.1) (0, 0) (⟨Nat.zero_le _, Nat.le_refl _, rfl⟩) (lv_sub hl [0, 1, 2, 3] rfl) (fun x hJ ih ls hl => ?_)
  obtain ⟨k, pl⟩ := x
  obtain ⟨hk, hpl, hp⟩ := hJ
  have hl : lv_has ls 6 [(3, .int (nI k)), (2, .int (nI pl)), (0, .ref (h 0)), (1, .ref (g 0))] := hl
  have ih_4 := ih
  refine lv_iload_n hx hb d_X_firstOutputFault_4 rfl (lv_at hl 0 rfl) ?_
  refine lv_aload_n hx hb d_X_firstOutputFault_5 rfl (lv_at hl 3 rfl) ?_
  refine va_getN (D := D) (ci := 0) (v := .int (nI (sx_dN α a))) (C := R_A) (T := T_A) (N := 12) hx hb hts iw_A hown hK.1 hP 9 rfl rfl 2 (by decide) (va_Nw.use rfl (hK.2.1 _ wd_164)) (fun _ h9 => h9) rfl d_X_firstOutputFault_6 ?_
  refine lv_icmp_ge (tgt := 86) hx hb d_X_firstOutputFault_9 (by decide) (fun c_1 => ?_) (fun c_1 => ?_)
  · have c_1 : sx_dN α a ≤ k := (nI_leI (by omega) (by omega)).mp c_1
    refine lv_iconst (v := nI 0) hx hb d_X_firstOutputFault_86 (by decide +kernel) ?_
    exact W.iret (v := nI 0) hx hb hr (fun t ht hW => ⟨nI 0, rfl, (by rw [hp, show sx_dN α a - k = 0 by omega]; rfl), ht⟩) (fun _ h => by cases h) d_X_firstOutputFault_87
  · have c_1 : k < sx_dN α a := Nat.not_le.mp (fun z => c_1 ((nI_leI (by omega) (by omega)).mpr z))
    refine lv_aload_n hx hb d_X_firstOutputFault_12 rfl (lv_at hl 3 rfl) ?_
    refine va_getN (D := D) (ci := 0) (v := .ref (g 2)) (C := R_A) (T := T_A) (N := 12) hx hb hts iw_A hown hK.1 hP 9 rfl rfl 1 (by decide) (va_Nw.use rfl (hK.2.1 _ wd_162)) (fun _ h9 => h9) rfl d_X_firstOutputFault_13 ?_
    refine lv_iload_n hx hb d_X_firstOutputFault_16 rfl (lv_at hl 0 rfl) ?_
    refine va_zald hx hb hK.1 hP 11 1 rfl rfl (vp_in_nI (by omega) (by decide)) d_X_firstOutputFault_17 ?_
    refine sx_asi (congrArg out (nI_clamp (by omega))) ?_
    refine sx_asi (hDO k (by omega)).2 ?_
    refine lv_if_eq (tgt := 80) hx hb d_X_firstOutputFault_18 (by decide) (fun c_2 => ?_) (fun c_2 => ?_)
    · refine lv_iinc (v := nI (k + 1)) (lv' := [(3, .int (nI (k + 1))), (2, .int (nI pl)), (0, .ref (h 0)), (1, .ref (g 0))]) hx hb d_X_firstOutputFault_80 hl (k := 0) rfl (nI_1 k) (by decide) rfl (fun ls hl => ?_)
      refine lv_goto (tgt := 4) hx hb d_X_firstOutputFault_83 (by decide) ?_
      exact ih_4 (k + 1, pl) (⟨by omega, by omega, by rw [hp, sx_fl_step (by omega), decide_eq_true c_2]; rfl⟩) (by omega) ls (lv_sub hl [0, 1, 2, 3] rfl)
    · refine lv_aload_n hx hb d_X_firstOutputFault_21 rfl (lv_at hl 2 rfl) ?_
      refine va_get (D := D) (ci := 3) (v := .ref (h 1)) (C := R_X) (T := T_X) (N := 6) hx hb hts iw_X hown hK.1 hP 0 rfl rfl 1 (by decide) (hts _ wd_70) (fun _ h9 => h9) rfl d_X_firstOutputFault_22 ?_
      refine lv_aload_n hx hb d_X_firstOutputFault_25 rfl (lv_at hl 3 rfl) ?_
      refine va_getN (D := D) (ci := 0) (v := .ref (g 1)) (C := R_A) (T := T_A) (N := 12) hx hb hts iw_A hown hK.1 hP 9 rfl rfl 0 (by decide) (va_Nw.use rfl (hK.2.1 _ wd_160)) (fun _ h9 => h9) rfl d_X_firstOutputFault_26 ?_
      refine lv_iload_n hx hb d_X_firstOutputFault_29 rfl (lv_at hl 0 rfl) ?_
      refine va_iald hx hb hK.1 hP 10 0 rfl rfl (vp_in_nI (by omega) (by decide)) d_X_firstOutputFault_30 ?_
      refine sx_asi (congrArg dp (nI_clamp (by omega))) ?_
      obtain ⟨dp1, dp2, dp3⟩ := sx_dp_ok hn31 hAc (show k < sx_dN α a by omega)
      refine sx_asi ((hDO k (by omega)).1.trans dp3) ?_
      have hPc : va_P D vwCl (wP cA (h 1) (h 2) (h 3) (h 4) (h 5) (nI n) (α 1) (α 2) ab un) s.heap := hP.sub [1, 2, 3, 4, 5] rfl
      refine vp_callSl (va_runV (As := [.int (nI (sx_dp α a k))]) (rest := []) ⟨hx, hb, hml, hown, hts⟩ (k_under l D cA (h 1) (h 2) (h 3) (h 4) (h 5) n (α 1) (α 2) ab un (sx_dp α a k) (by omega) (by omega)) (cwV 1 hts (sx_GV wd_237 wd_238 wd_239 wd_3 wd_240) rfl rfl rfl (by decide +kernel) ⟨Nat.le_of_ble_eq_true rfl, Nat.le_of_ble_eq_true rfl⟩) (sx_preV hK hPc (va_recv hK.1 hPc (ci := 1) (q0 := 0) rfl rfl)) rfl rfl hl.1 rfl (lv_room (Nat.le_of_ble_eq_true rfl)) d_X_firstOutputFault_31 ⟨Nat.le_of_ble_eq_true rfl, Nat.le_of_ble_eq_true rfl⟩).run (fun r_4 hr_3 => ?_)
      subst hr_3
      refine lv_lstore (lv' := [(4, .long (un (sx_dp α a k))), (3, .int (nI k)), (2, .int (nI pl)), (0, .ref (h 0)), (1, .ref (g 0))]) hx hb d_X_firstOutputFault_34 hl (by decide) rfl (fun ls hl => ?_)
      refine lv_lload hx hb d_X_firstOutputFault_36 (lv_at hl 0 rfl) ?_
      refine lv_aload_n hx hb d_X_firstOutputFault_38 rfl (lv_at hl 4 rfl) ?_
      refine va_getN (D := D) (ci := 0) (v := .ref (g 3)) (C := R_A) (T := T_A) (N := 12) hx hb hts iw_A hown hK.1 hP 9 rfl rfl 3 (by decide) (va_Nw.use rfl (hK.2.1 _ wd_166)) (fun _ h9 => h9) rfl d_X_firstOutputFault_39 ?_
      have hPc : va_P D vwCl (wS cA (g 3) (g 4) wv wf wl) s.heap := hP.sub [12, 13] rfl
      refine vp_callSl (va_runV (As := []) (rest := [.long (un (sx_dp α a k))]) ⟨hx, hb, hml, hown, hts⟩ (k_taken l D cA (g 3) (g 4) wv wf wl ) (cwV 0 hts (sx_GV wd_121 wd_122 wd_123 wd_4 wd_124) rfl rfl rfl (by decide +kernel) ⟨Nat.le_of_ble_eq_true rfl, Nat.le_of_ble_eq_true rfl⟩) (sx_preV hK hPc (va_recv hK.1 hPc (ci := 2) (q0 := 0) rfl rfl)) rfl rfl hl.1 rfl (lv_room (Nat.le_of_ble_eq_true rfl)) d_X_firstOutputFault_42 ⟨Nat.le_of_ble_eq_true rfl, Nat.le_of_ble_eq_true rfl⟩).run (fun r_6 hr_5 => ?_)
      subst hr_5
      refine lv_land hx hb d_X_firstOutputFault_45 ?_
      refine lv_lconst (v := 0) hx hb d_X_firstOutputFault_46 (by decide +kernel) ?_
      refine W.lcmp hx hb d_X_firstOutputFault_47 ?_
      refine lv_if_ne (tgt := 58) hx hb d_X_firstOutputFault_48 (by decide) (fun c_7 => ?_) (fun c_7 => ?_)
      · have c_7 : ¬ ((un (sx_dp α a k)) &&& (wf ||| wl)) = 0 := fun z => c_7 (sx_cmp0.mpr z)
        refine lv_aload_n hx hb d_X_firstOutputFault_58 rfl (lv_at hl 4 rfl) ?_
        refine va_getN (D := D) (ci := 0) (v := .ref (g 3)) (C := R_A) (T := T_A) (N := 12) hx hb hts iw_A hown hK.1 hP 9 rfl rfl 3 (by decide) (va_Nw.use rfl (hK.2.1 _ wd_166)) (fun _ h9 => h9) rfl d_X_firstOutputFault_59 ?_
        refine lv_lload hx hb d_X_firstOutputFault_62 (lv_at hl 0 rfl) ?_
        have hPc : va_P D vwCl (wS cA (g 3) (g 4) wv wf wl) s.heap := hP.sub [12, 13] rfl
        refine vp_callSi (va_runV (As := [.long (un (sx_dp α a k))]) (rest := []) ⟨hx, hb, hml, hown, hts⟩ (k_loose l D cA (g 3) (g 4) wv wf wl (un (sx_dp α a k))) (cwV 1 hts (sx_GV wd_329 wd_330 wd_331 wd_4 wd_332) rfl rfl rfl (by decide +kernel) ⟨Nat.le_of_ble_eq_true rfl, Nat.le_of_ble_eq_true rfl⟩) (sx_preV hK hPc (va_recv hK.1 hPc (ci := 2) (q0 := 0) rfl rfl)) rfl rfl hl.1 rfl (lv_room (Nat.le_of_ble_eq_true rfl)) d_X_firstOutputFault_64 ⟨Nat.le_of_ble_eq_true rfl, Nat.le_of_ble_eq_true rfl⟩).run (fun r_9 hr_8 => ?_)
        subst hr_8
        refine lv_if_eq (tgt := 77) hx hb d_X_firstOutputFault_67 (by decide) (fun c_10 => ?_) (fun c_10 => ?_)
        · have c_10 : (sx_any (fun p => sx_bt (wl &&& (un (sx_dp α a k))) p && decide (sx_lR wv wf wl 5 (nI p) = 0)) 60) = false := sx_bI0 c_10
          refine lv_iinc (v := nI (pl + 1)) (lv' := [(2, .int (nI (pl + 1))), (4, .long (un (sx_dp α a k))), (3, .int (nI k)), (0, .ref (h 0)), (1, .ref (g 0))]) hx hb d_X_firstOutputFault_77 hl (k := 2) rfl (nI_1 pl) (by decide) rfl (fun ls hl => ?_)
          refine lv_iinc (v := nI (k + 1)) (lv' := [(3, .int (nI (k + 1))), (2, .int (nI (pl + 1))), (4, .long (un (sx_dp α a k))), (0, .ref (h 0)), (1, .ref (g 0))]) hx hb d_X_firstOutputFault_80 hl (k := 2) rfl (nI_1 k) (by decide) rfl (fun ls hl => ?_)
          refine lv_goto (tgt := 4) hx hb d_X_firstOutputFault_83 (by decide) ?_
          have w48 := sx_nf (fun z => c_7 ((sx_hu_iff hR hn60 dp2 (hAc.2.2.2.2.1 0 (by omega) |>.2 (Or.inl rfl)) hW0).mpr z))
          have w67 := c_10
          rw [sx_loose_eq hI ha hR dp2 hW0] at w67
          exact ih_4 (k + 1, pl + 1) (⟨by omega, by omega, by rw [hp, sx_fl_step (by omega), decide_eq_false c_2, w48, w67]; rfl⟩) (by omega) ls (lv_sub hl [0, 1, 3, 4] rfl)
        · have c_10 : (sx_any (fun p => sx_bt (wl &&& (un (sx_dp α a k))) p && decide (sx_lR wv wf wl 5 (nI p) = 0)) 60) = true := sx_bIn c_10
          refine lv_bipush (v := (-11)) hx hb d_X_firstOutputFault_70 (by decide +kernel) ?_
          refine lv_iconst (v := nI 2) hx hb d_X_firstOutputFault_72 (by decide +kernel) ?_
          refine lv_iload_n hx hb d_X_firstOutputFault_73 rfl (lv_at hl 2 rfl) ?_
          refine lv_imul hx hb d_X_firstOutputFault_74 ?_
          refine sx_asi (y := nI (2 * pl)) (pk_mul 2 pl) ?_
          refine lv_isub hx hb d_X_firstOutputFault_75 ?_
          have w48 := sx_nf (fun z => c_7 ((sx_hu_iff hR hn60 dp2 (hAc.2.2.2.2.1 0 (by omega) |>.2 (Or.inl rfl)) hW0).mpr z))
          have w67 := c_10
          rw [sx_loose_eq hI ha hR dp2 hW0] at w67
          exact W.iret (v := (-11) - (nI (2 * pl))) hx hb hr (fun t ht hW => ⟨(-11) - (nI (2 * pl)), rfl, (by rw [hp, sx_fl_step (by omega), decide_eq_false c_2, w48, w67, sx_two]; rfl), ht⟩) (fun _ h => by cases h) d_X_firstOutputFault_76
      · have c_7 : (un (sx_dp α a k)) &&& (wf ||| wl) = 0 := sx_cmp0.mp c_7
        refine lv_bipush (v := (-10)) hx hb d_X_firstOutputFault_51 (by decide +kernel) ?_
        refine lv_iconst (v := nI 2) hx hb d_X_firstOutputFault_53 (by decide +kernel) ?_
        refine lv_iload_n hx hb d_X_firstOutputFault_54 rfl (lv_at hl 2 rfl) ?_
        refine lv_imul hx hb d_X_firstOutputFault_55 ?_
        refine sx_asi (y := nI (2 * pl)) (pk_mul 2 pl) ?_
        refine lv_isub hx hb d_X_firstOutputFault_56 ?_
        exact W.iret (v := (-10) - (nI (2 * pl))) hx hb hr (fun t ht hW => ⟨(-10) - (nI (2 * pl)), rfl, (by rw [hp, sx_fl_step (by omega), decide_eq_false c_2, (sx_hu_iff hR hn60 dp2 (hAc.2.2.2.2.1 0 (by omega) |>.2 (Or.inl rfl)) hW0).mp c_7, sx_two]; rfl), ht⟩) (fun _ h => by cases h) d_X_firstOutputFault_57

set_option maxHeartbeats 4000000 in
set_option maxRecDepth 100000 in
theorem k_refuse (l : Launch) (D : va_G) (cA : Nat → ClassId) (sz : Nat) (h g : Nat → Nat) (lim ac : Int32) (sb : Bool) (cnt : Int32) (par ltr : Nat → Int32) (ab un : Nat → Int64) (sv : Nat → Int32) (sf sl : Int64) (acts : Nat → Option Nat) (dp out : Nat → Int32) (dc th hw br ops rf : Int32) (tp : Nat → Int32) (tc : Int32) (ts : Int64) (wv : Nat → Int32) (wf wl : Int64) : Met l y_X_refuse w_X_refuse ({ frames := 0, cells := 0, slots := 0, locals := 0 }) (sx_Pw D cA [.ref (h 0), .ref (g 0)] (wXA cA h g lim ac (sx_bI sb) cnt par ltr ab un sv sf sl acts dp out dc th hw br ops rf tp tc ts wv wf wl) sz) (va_Qi (fun r (_ : Unit) => r = nI 0) (sx_Bw D (wXA cA h g lim ac (sx_bI sb) cnt par ltr ab un sv sf sl acts dp out dc th hw br ops rf tp tc ts wv wf wl) sz (fun _ => wXA cA h g lim ac (sx_bI sb) cnt par ltr ab un sv sf sl acts dp out dc th hw (bif sb then 1 else br) ops (rf + 1) tp tc ts wv wf wl)) (va_A (wXA cA h g lim ac (sx_bI sb) cnt par ltr ab un sv sf sl acts dp out dc th hw br ops rf tp tc ts wv wf wl) sz)) 0 0 (va_A (wXA cA h g lim ac (sx_bI sb) cnt par ltr ab un sv sf sl acts dp out dc th hw br ops rf tp tc ts wv wf wl) sz) := by
  refine Met.ofW (cc := b_X_refuse) (maxL := 2) (ret := (some .int)) (by decide) rfl ?_
  intro pG eG s m args below meth cG s₁ B hml hv
  obtain ⟨rfl, hsz, hP, hK, hD0⟩ := hv
  have hx := B.exec
  have hb := B.bytes
  have hr := B.returns
  have hts0 := atoms_spec (ws := w_X_refuse) B.pre
  have hts : ∀ w ∈ sx_gw, w.before _ s = true := fun w h => hts0 w (List.mem_cons_of_mem _ h)
  have hown : s.vm.findClass R_X = some m.cls := findClass_of_methodNamed B.named
  have hlocks := B.notSynchronized
  subst hsz
  have hD := hD0.self (sz := s.heap.size)
  generalize hAe : va_A (wXA cA h g lim ac (sx_bI sb) cnt par ltr ab un sv sf sl acts dp out dc th hw br ops rf tp tc ts wv wf wl) s.heap.size = A at hD ⊢
  have hA : ∀ q : Nat, s.heap.size ≤ q → A q := fun q h => by rw [← hAe]; exact Or.inr h
  have hS : va_S A s.heap s.heap [] := va_S.rf
  have hl := lv_entry ([.ref (h 0), .ref (g 0)]) (n := 2) (Nat.le_of_ble_eq_true rfl)
  rw [lg_entry_eq]
  generalize (lg_sl ([.ref (h 0), .ref (g 0)]) ++ List.replicate (2 - (lg_sl ([.ref (h 0), .ref (g 0)])).length) Slot.unset).toArray = ls at hl ⊢
  have hl : lv_has ls 2 [(0, .ref (h 0)), (1, .ref (g 0))] := hl
  refine lv_aload_n hx hb d_X_refuse_0 rfl (lv_at hl 1 rfl) ?_
  refine lv_dup hx hb d_X_refuse_1 rfl ?_
  refine va_getN (D := D) (ci := 0) (v := .int rf) (C := R_A) (T := T_A) (N := 12) hx hb hts iw_A hown hK.1 hP 9 rfl rfl 8 (by decide) (va_Nw.use rfl (hK.2.1 _ wd_176)) (fun _ h9 => h9) rfl d_X_refuse_2 ?_
  refine lv_iconst (v := nI 1) hx hb d_X_refuse_5 (by decide +kernel) ?_
  refine lv_iadd hx hb d_X_refuse_6 ?_
  refine va_putN (D := D) (ci := 0) (v := .int (rf + (nI 1))) (ty := .int) (C := R_A) (T := T_A) (N := 12) hx hb hts iw_A t_A o_A n_A hown hK.1 hP hD hS 9 rfl rfl 8 (by decide) (va_Nw.use rfl (hK.2.1 _ wd_176)) (fun _ h9 => h9) rfl (by decide +kernel) rfl rfl (Nat.le_of_ble_eq_true rfl) d_X_refuse_7 (fun H locs hP hD hS => ?_)
  have hP : va_P D vwCl (wXA cA h g lim ac (sx_bI sb) cnt par ltr ab un sv sf sl acts dp out dc th hw br ops (rf + (nI 1)) tp tc ts wv wf wl) H := hP
  have hD : va_D A (wXA cA h g lim ac (sx_bI sb) cnt par ltr ab un sv sf sl acts dp out dc th hw br ops (rf + (nI 1)) tp tc ts wv wf wl) := hD
  refine lv_aload_n hx hb d_X_refuse_10 rfl (lv_at hl 0 rfl) ?_
  refine va_get (D := D) (ci := 3) (v := .int (sx_bI sb)) (C := R_X) (T := T_X) (N := 6) hx hb hts iw_X hown hK.1 hP 0 rfl rfl 5 (by decide) (hts _ wd_74) (fun _ h9 => h9) rfl d_X_refuse_11 ?_
  refine lv_if_eq (tgt := 22) hx hb d_X_refuse_14 (by decide) (fun c_1 => ?_) (fun c_1 => ?_)
  · have c_1 : sb = false := sx_bI0 c_1
    refine lv_iconst (v := nI 0) hx hb d_X_refuse_22 (by decide +kernel) ?_
    have hb9 : sb = false := c_1
    subst hb9
    have hP9 : va_P D vwCl (wXA cA h g lim ac (sx_bI false) cnt par ltr ab un sv sf sl acts dp out dc th hw (bif false then 1 else br) ops (rf + 1) tp tc ts wv wf wl) H := hP
    have hD9 : va_D A (wXA cA h g lim ac (sx_bI false) cnt par ltr ab un sv sf sl acts dp out dc th hw (bif false then 1 else br) ops (rf + 1) tp tc ts wv wf wl) := hD
    exact W.iret (v := nI 0) hx hb hr (fun t ht hW => ⟨⟨nI 0, (), rfl, rfl, by rw [ht]; exact hP9, by rw [hAe]; exact hD9⟩, hS.F ht⟩) hS.2.2 d_X_refuse_23
  · have c_1 : sb = true := sx_bIn c_1
    refine lv_aload_n hx hb d_X_refuse_17 rfl (lv_at hl 1 rfl) ?_
    refine lv_iconst (v := nI 1) hx hb d_X_refuse_18 (by decide +kernel) ?_
    refine va_putN (D := D) (ci := 0) (v := .int (nI 1)) (ty := .boolean) (C := R_A) (T := T_A) (N := 12) hx hb hts iw_A t_A o_A n_A hown hK.1 hP hD hS 9 rfl rfl 6 (by decide) (va_Nw.use rfl (hK.2.1 _ wd_172)) (fun _ h9 => h9) rfl (by decide +kernel) (by decide +kernel) (by decide +kernel) (Nat.le_of_ble_eq_true rfl) d_X_refuse_19 (fun H locs hP hD hS => ?_)
    have hP : va_P D vwCl (wXA cA h g lim ac (sx_bI sb) cnt par ltr ab un sv sf sl acts dp out dc th hw (nI 1) ops (rf + (nI 1)) tp tc ts wv wf wl) H := hP
    have hD : va_D A (wXA cA h g lim ac (sx_bI sb) cnt par ltr ab un sv sf sl acts dp out dc th hw (nI 1) ops (rf + (nI 1)) tp tc ts wv wf wl) := hD
    refine lv_iconst (v := nI 0) hx hb d_X_refuse_22 (by decide +kernel) ?_
    have hb9 : sb = true := c_1
    subst hb9
    have hP9 : va_P D vwCl (wXA cA h g lim ac (sx_bI true) cnt par ltr ab un sv sf sl acts dp out dc th hw (bif true then 1 else br) ops (rf + 1) tp tc ts wv wf wl) H := hP
    have hD9 : va_D A (wXA cA h g lim ac (sx_bI true) cnt par ltr ab un sv sf sl acts dp out dc th hw (bif true then 1 else br) ops (rf + 1) tp tc ts wv wf wl) := hD
    exact W.iret (v := nI 0) hx hb hr (fun t ht hW => ⟨⟨nI 0, (), rfl, rfl, by rw [ht]; exact hP9, by rw [hAe]; exact hD9⟩, hS.F ht⟩) hS.2.2 d_X_refuse_23
end
section
set_option maxHeartbeats 4000000 in
set_option maxRecDepth 100000 in
theorem k_isL (l : Launch) (D : va_G) (cA : Nat → ClassId) (ch : Int32) : Met l y_X_isLetter w_X_isLetter ({ frames := 0, cells := 0, slots := 0, locals := 0 }) (sx_Pr D cA [.int ch] ([])) (vp_Si (fun r => r = sx_bI (sx_isL ch))) 0 0 (fun _ => False) := by
  refine Met.ofW (cc := b_X_isLetter) (maxL := 1) (ret := (some .boolean)) (by decide) rfl ?_
  intro pG eG s m args below meth cG s₁ B hml hv
  obtain ⟨rfl, hP, hK⟩ := hv
  have hx := B.exec
  have hb := B.bytes
  have hr := B.returns
  have hts0 := atoms_spec (ws := w_X_isLetter) B.pre
  have hts : ∀ w ∈ sx_gw, w.before _ s = true := fun w h => hts0 w (List.mem_cons_of_mem _ h)
  have hown : s.vm.findClass R_X = some m.cls := findClass_of_methodNamed B.named
  have hlocks := B.notSynchronized
  have hl := lv_entry ([.int ch]) (n := 1) (Nat.le_of_ble_eq_true rfl)
  rw [lg_entry_eq]
  generalize (lg_sl ([.int ch]) ++ List.replicate (1 - (lg_sl ([.int ch])).length) Slot.unset).toArray = ls at hl ⊢
  have hl : lv_has ls 1 [(0, .int ch)] := hl
  refine lv_iload_n hx hb d_X_isLetter_0 rfl (lv_at hl 0 rfl) ?_
  refine lv_bipush (v := nI 97) hx hb d_X_isLetter_1 (by decide +kernel) ?_
  refine lv_icmp_lt (tgt := 12) hx hb d_X_isLetter_3 (by decide) (fun c_1 => ?_) (fun c_1 => ?_)
  · refine lv_iload_n hx hb d_X_isLetter_12 rfl (lv_at hl 0 rfl) ?_
    refine lv_bipush (v := nI 65) hx hb d_X_isLetter_13 (by decide +kernel) ?_
    refine lv_icmp_lt (tgt := 28) hx hb d_X_isLetter_15 (by decide) (fun c_2 => ?_) (fun c_2 => ?_)
    · refine lv_iconst (v := nI 0) hx hb d_X_isLetter_28 (by decide +kernel) ?_
      exact W.zret (v := nI 0) (ty := .boolean) hx hb hr (by decide +kernel) (fun t ht hW => ⟨nI 0, rfl, (by first | exact sx_b1 (sx_isL_t1 (by assumption) (by assumption)) | exact sx_b1 (sx_isL_t2 (by assumption) (by assumption)) | exact sx_b0 (sx_isL_f (by first | exact Or.inl (by assumption) | exact Or.inr (by assumption)) (by first | exact Or.inl (by assumption) | exact Or.inr (by assumption)))), ht⟩) (fun _ h => by cases h) d_X_isLetter_29
    · refine lv_iload_n hx hb d_X_isLetter_18 rfl (lv_at hl 0 rfl) ?_
      refine lv_bipush (v := nI 90) hx hb d_X_isLetter_19 (by decide +kernel) ?_
      refine lv_icmp_gt (tgt := 28) hx hb d_X_isLetter_21 (by decide) (fun c_3 => ?_) (fun c_3 => ?_)
      · refine lv_iconst (v := nI 0) hx hb d_X_isLetter_28 (by decide +kernel) ?_
        exact W.zret (v := nI 0) (ty := .boolean) hx hb hr (by decide +kernel) (fun t ht hW => ⟨nI 0, rfl, (by first | exact sx_b1 (sx_isL_t1 (by assumption) (by assumption)) | exact sx_b1 (sx_isL_t2 (by assumption) (by assumption)) | exact sx_b0 (sx_isL_f (by first | exact Or.inl (by assumption) | exact Or.inr (by assumption)) (by first | exact Or.inl (by assumption) | exact Or.inr (by assumption)))), ht⟩) (fun _ h => by cases h) d_X_isLetter_29
      · refine lv_iconst (v := nI 1) hx hb d_X_isLetter_24 (by decide +kernel) ?_
        refine lv_goto (tgt := 29) hx hb d_X_isLetter_25 (by decide) ?_
        exact W.zret (v := nI 1) (ty := .boolean) hx hb hr (by decide +kernel) (fun t ht hW => ⟨nI 1, rfl, (by first | exact sx_b1 (sx_isL_t1 (by assumption) (by assumption)) | exact sx_b1 (sx_isL_t2 (by assumption) (by assumption)) | exact sx_b0 (sx_isL_f (by first | exact Or.inl (by assumption) | exact Or.inr (by assumption)) (by first | exact Or.inl (by assumption) | exact Or.inr (by assumption)))), ht⟩) (fun _ h => by cases h) d_X_isLetter_29
  · refine lv_iload_n hx hb d_X_isLetter_6 rfl (lv_at hl 0 rfl) ?_
    refine lv_bipush (v := nI 122) hx hb d_X_isLetter_7 (by decide +kernel) ?_
    refine lv_icmp_le (tgt := 24) hx hb d_X_isLetter_9 (by decide) (fun c_4 => ?_) (fun c_4 => ?_)
    · refine lv_iconst (v := nI 1) hx hb d_X_isLetter_24 (by decide +kernel) ?_
      refine lv_goto (tgt := 29) hx hb d_X_isLetter_25 (by decide) ?_
      exact W.zret (v := nI 1) (ty := .boolean) hx hb hr (by decide +kernel) (fun t ht hW => ⟨nI 1, rfl, (by first | exact sx_b1 (sx_isL_t1 (by assumption) (by assumption)) | exact sx_b1 (sx_isL_t2 (by assumption) (by assumption)) | exact sx_b0 (sx_isL_f (by first | exact Or.inl (by assumption) | exact Or.inr (by assumption)) (by first | exact Or.inl (by assumption) | exact Or.inr (by assumption)))), ht⟩) (fun _ h => by cases h) d_X_isLetter_29
    · refine lv_iload_n hx hb d_X_isLetter_12 rfl (lv_at hl 0 rfl) ?_
      refine lv_bipush (v := nI 65) hx hb d_X_isLetter_13 (by decide +kernel) ?_
      refine lv_icmp_lt (tgt := 28) hx hb d_X_isLetter_15 (by decide) (fun c_5 => ?_) (fun c_5 => ?_)
      · refine lv_iconst (v := nI 0) hx hb d_X_isLetter_28 (by decide +kernel) ?_
        exact W.zret (v := nI 0) (ty := .boolean) hx hb hr (by decide +kernel) (fun t ht hW => ⟨nI 0, rfl, (by first | exact sx_b1 (sx_isL_t1 (by assumption) (by assumption)) | exact sx_b1 (sx_isL_t2 (by assumption) (by assumption)) | exact sx_b0 (sx_isL_f (by first | exact Or.inl (by assumption) | exact Or.inr (by assumption)) (by first | exact Or.inl (by assumption) | exact Or.inr (by assumption)))), ht⟩) (fun _ h => by cases h) d_X_isLetter_29
      · refine lv_iload_n hx hb d_X_isLetter_18 rfl (lv_at hl 0 rfl) ?_
        refine lv_bipush (v := nI 90) hx hb d_X_isLetter_19 (by decide +kernel) ?_
        refine lv_icmp_gt (tgt := 28) hx hb d_X_isLetter_21 (by decide) (fun c_6 => ?_) (fun c_6 => ?_)
        · refine lv_iconst (v := nI 0) hx hb d_X_isLetter_28 (by decide +kernel) ?_
          exact W.zret (v := nI 0) (ty := .boolean) hx hb hr (by decide +kernel) (fun t ht hW => ⟨nI 0, rfl, (by first | exact sx_b1 (sx_isL_t1 (by assumption) (by assumption)) | exact sx_b1 (sx_isL_t2 (by assumption) (by assumption)) | exact sx_b0 (sx_isL_f (by first | exact Or.inl (by assumption) | exact Or.inr (by assumption)) (by first | exact Or.inl (by assumption) | exact Or.inr (by assumption)))), ht⟩) (fun _ h => by cases h) d_X_isLetter_29
        · refine lv_iconst (v := nI 1) hx hb d_X_isLetter_24 (by decide +kernel) ?_
          refine lv_goto (tgt := 29) hx hb d_X_isLetter_25 (by decide) ?_
          exact W.zret (v := nI 1) (ty := .boolean) hx hb hr (by decide +kernel) (fun t ht hW => ⟨nI 1, rfl, (by first | exact sx_b1 (sx_isL_t1 (by assumption) (by assumption)) | exact sx_b1 (sx_isL_t2 (by assumption) (by assumption)) | exact sx_b0 (sx_isL_f (by first | exact Or.inl (by assumption) | exact Or.inr (by assumption)) (by first | exact Or.inl (by assumption) | exact Or.inr (by assumption)))), ht⟩) (fun _ h => by cases h) d_X_isLetter_29

set_option maxHeartbeats 4000000 in
set_option maxRecDepth 100000 in
theorem k_bits (l : Launch) (D : va_G) (cA : Nat → ClassId) (w : Int64) : Met l y_J_bitCount w_J_bitCount ({ frames := 0, cells := 0, slots := 0, locals := 0 }) (sx_Pr D cA [.long w] ([])) (vp_Si (fun r => r = nI (sx_cnt (sx_bt w) 64))) 0 0 (fun _ => False) := by
  refine Met.ofW (cc := b_J_bitCount) (maxL := 2) (ret := (some .int)) (by decide) rfl ?_
  intro pG eG s m args below meth cG s₁ B hml hv
  obtain ⟨rfl, hP, hK⟩ := hv
  have hx := B.exec
  have hb := B.bytes
  have hr := B.returns
  have hts0 := atoms_spec (ws := w_J_bitCount) B.pre
  have hts : ∀ w ∈ sx_gw, w.before _ s = true := fun w h => hts0 w (List.mem_cons_of_mem _ h)
  have hown : s.vm.findClass R_J = some m.cls := findClass_of_methodNamed B.named
  have hlocks := B.notSynchronized
  have hl := lv_entry ([.long w]) (n := 2) (Nat.le_of_ble_eq_true rfl)
  rw [lg_entry_eq]
  generalize (lg_sl ([.long w]) ++ List.replicate (2 - (lg_sl ([.long w])).length) Slot.unset).toArray = ls at hl ⊢
  have hl : lv_has ls 2 [(0, .long w)] := hl
  refine lv_lload_n hx hb d_J_bitCount_0 rfl (lv_at hl 0 rfl) ?_
  refine lv_lload_n hx hb d_J_bitCount_1 rfl (lv_at hl 0 rfl) ?_
  refine lv_iconst (v := nI 1) hx hb d_J_bitCount_2 (by decide +kernel) ?_
  refine lv_lushr (v := sx_shr w 1) hx hb d_J_bitCount_3 rfl ?_
  refine lv_ldc2 (own := R_J) (v := 6148914691236517205) hx hb hown (hts _ wd_259) d_J_bitCount_4 ?_
  refine lv_land hx hb d_J_bitCount_7 ?_
  refine lv_lsub hx hb d_J_bitCount_8 ?_
  refine lv_lstore_n (lv' := [(0, .long (w - ((sx_shr w 1) &&& 6148914691236517205)))]) hx hb d_J_bitCount_9 rfl hl (by decide) rfl (fun ls hl => ?_)
  obtain ⟨i1, e1⟩ : ∃ y : Int64, y = w - ((sx_shr w 1) &&& 6148914691236517205) := ⟨_, rfl⟩
  rw [← e1] at hl
  have hl : lv_has ls 2 [(0, .long i1)] := hl
  refine lv_lload_n hx hb d_J_bitCount_10 rfl (lv_at hl 0 rfl) ?_
  refine lv_ldc2 (own := R_J) (v := 3689348814741910323) hx hb hown (hts _ wd_260) d_J_bitCount_11 ?_
  refine lv_land hx hb d_J_bitCount_14 ?_
  refine lv_lload_n hx hb d_J_bitCount_15 rfl (lv_at hl 0 rfl) ?_
  refine lv_iconst (v := nI 2) hx hb d_J_bitCount_16 (by decide +kernel) ?_
  refine lv_lushr (v := sx_shr i1 2) hx hb d_J_bitCount_17 rfl ?_
  refine lv_ldc2 (own := R_J) (v := 3689348814741910323) hx hb hown (hts _ wd_260) d_J_bitCount_18 ?_
  refine lv_land hx hb d_J_bitCount_21 ?_
  refine lv_ladd hx hb d_J_bitCount_22 ?_
  refine lv_lstore_n (lv' := [(0, .long ((i1 &&& 3689348814741910323) + ((sx_shr i1 2) &&& 3689348814741910323)))]) hx hb d_J_bitCount_23 rfl hl (by decide) rfl (fun ls hl => ?_)
  obtain ⟨i2, e2⟩ : ∃ y : Int64, y = (i1 &&& 3689348814741910323) + ((sx_shr i1 2) &&& 3689348814741910323) := ⟨_, rfl⟩
  rw [← e2] at hl
  have hl : lv_has ls 2 [(0, .long i2)] := hl
  refine lv_lload_n hx hb d_J_bitCount_24 rfl (lv_at hl 0 rfl) ?_
  refine lv_lload_n hx hb d_J_bitCount_25 rfl (lv_at hl 0 rfl) ?_
  refine lv_iconst (v := nI 4) hx hb d_J_bitCount_26 (by decide +kernel) ?_
  refine lv_lushr (v := sx_shr i2 4) hx hb d_J_bitCount_27 rfl ?_
  refine lv_ladd hx hb d_J_bitCount_28 ?_
  refine lv_ldc2 (own := R_J) (v := 1085102592571150095) hx hb hown (hts _ wd_261) d_J_bitCount_29 ?_
  refine lv_land hx hb d_J_bitCount_32 ?_
  refine lv_lstore_n (lv' := [(0, .long ((i2 + (sx_shr i2 4)) &&& 1085102592571150095))]) hx hb d_J_bitCount_33 rfl hl (by decide) rfl (fun ls hl => ?_)
  obtain ⟨i3, e3⟩ : ∃ y : Int64, y = (i2 + (sx_shr i2 4)) &&& 1085102592571150095 := ⟨_, rfl⟩
  rw [← e3] at hl
  have hl : lv_has ls 2 [(0, .long i3)] := hl
  refine lv_lload_n hx hb d_J_bitCount_34 rfl (lv_at hl 0 rfl) ?_
  refine lv_lload_n hx hb d_J_bitCount_35 rfl (lv_at hl 0 rfl) ?_
  refine lv_bipush (v := nI 8) hx hb d_J_bitCount_36 (by decide +kernel) ?_
  refine lv_lushr (v := sx_shr i3 8) hx hb d_J_bitCount_38 rfl ?_
  refine lv_ladd hx hb d_J_bitCount_39 ?_
  refine lv_lstore_n (lv' := [(0, .long (i3 + (sx_shr i3 8)))]) hx hb d_J_bitCount_40 rfl hl (by decide) rfl (fun ls hl => ?_)
  obtain ⟨i4, e4⟩ : ∃ y : Int64, y = i3 + (sx_shr i3 8) := ⟨_, rfl⟩
  rw [← e4] at hl
  have hl : lv_has ls 2 [(0, .long i4)] := hl
  refine lv_lload_n hx hb d_J_bitCount_41 rfl (lv_at hl 0 rfl) ?_
  refine lv_lload_n hx hb d_J_bitCount_42 rfl (lv_at hl 0 rfl) ?_
  refine lv_bipush (v := nI 16) hx hb d_J_bitCount_43 (by decide +kernel) ?_
  refine lv_lushr (v := sx_shr i4 16) hx hb d_J_bitCount_45 rfl ?_
  refine lv_ladd hx hb d_J_bitCount_46 ?_
  refine lv_lstore_n (lv' := [(0, .long (i4 + (sx_shr i4 16)))]) hx hb d_J_bitCount_47 rfl hl (by decide) rfl (fun ls hl => ?_)
  obtain ⟨i5, e5⟩ : ∃ y : Int64, y = i4 + (sx_shr i4 16) := ⟨_, rfl⟩
  rw [← e5] at hl
  have hl : lv_has ls 2 [(0, .long i5)] := hl
  refine lv_lload_n hx hb d_J_bitCount_48 rfl (lv_at hl 0 rfl) ?_
  refine lv_lload_n hx hb d_J_bitCount_49 rfl (lv_at hl 0 rfl) ?_
  refine lv_bipush (v := nI 32) hx hb d_J_bitCount_50 (by decide +kernel) ?_
  refine lv_lushr (v := sx_shr i5 32) hx hb d_J_bitCount_52 rfl ?_
  refine lv_ladd hx hb d_J_bitCount_53 ?_
  refine lv_lstore_n (lv' := [(0, .long (i5 + (sx_shr i5 32)))]) hx hb d_J_bitCount_54 rfl hl (by decide) rfl (fun ls hl => ?_)
  obtain ⟨i6, e6⟩ : ∃ y : Int64, y = i5 + (sx_shr i5 32) := ⟨_, rfl⟩
  rw [← e6] at hl
  have hl : lv_has ls 2 [(0, .long i6)] := hl
  refine lv_lload_n hx hb d_J_bitCount_55 rfl (lv_at hl 0 rfl) ?_
  refine lv_l2i (v := i6.toInt32) hx hb d_J_bitCount_56 rfl ?_
  refine lv_bipush (v := nI 127) hx hb d_J_bitCount_57 (by decide +kernel) ?_
  refine lv_iand hx hb d_J_bitCount_59 ?_
  exact W.iret (v := i6.toInt32 &&& (nI 127)) hx hb hr (fun t ht hW => ⟨i6.toInt32 &&& (nI 127), rfl, sx_bitcount e1 e2 e3 e4 e5 e6, ht⟩) (fun _ h => by cases h) d_J_bitCount_60

set_option maxHeartbeats 4000000 in
set_option maxRecDepth 100000 in
theorem k_actAt (l : Launch) (D : va_G) (cA : Nat → ClassId) (h : Nat → Nat) (lim : Int32) (na : Nat) (sn : Int32) (acts : Nat → Option Nat) (a : Nat) (ha : a < na) (hna : na ≤ 10) (q : Nat) (hq : acts a = some q) : Met l y_X_actionAt w_X_actionAt ({ frames := 0, cells := 0, slots := 0, locals := 0 }) (sx_Pr D cA [.ref (h 0), .int (nI a)] (wQ cA h lim (nI na) sn acts)) (va_Sq (fun r => r = some q)) 0 0 (fun _ => False) := by
  refine Met.ofW (cc := b_X_actionAt) (maxL := 2) (ret := (some (.object "SandboxTree$Action"))) (by decide) rfl ?_
  intro pG eG s m args below meth cG s₁ B hml hv
  obtain ⟨rfl, hP, hK⟩ := hv
  have hx := B.exec
  have hb := B.bytes
  have hr := B.returns
  have hts0 := atoms_spec (ws := w_X_actionAt) B.pre
  have hts : ∀ w ∈ sx_gw, w.before _ s = true := fun w h => hts0 w (List.mem_cons_of_mem _ h)
  have hown : s.vm.findClass R_X = some m.cls := findClass_of_methodNamed B.named
  have hlocks := B.notSynchronized
  have hl := lv_entry ([.ref (h 0), .int (nI a)]) (n := 2) (Nat.le_of_ble_eq_true rfl)
  rw [lg_entry_eq]
  generalize (lg_sl ([.ref (h 0), .int (nI a)]) ++ List.replicate (2 - (lg_sl ([.ref (h 0), .int (nI a)])).length) Slot.unset).toArray = ls at hl ⊢
  have hl : lv_has ls 2 [(0, .ref (h 0)), (1, .int (nI a))] := hl
  refine lv_iload_n hx hb d_X_actionAt_0 rfl (lv_at hl 1 rfl) ?_
  refine lv_if_lt (tgt := 21) hx hb d_X_actionAt_1 (by decide) (fun c_1 => ?_) (fun c_1 => ?_)
  · exact absurd c_1 (nI_pos (by omega))
  · refine lv_iload_n hx hb d_X_actionAt_4 rfl (lv_at hl 1 rfl) ?_
    refine lv_aload_n hx hb d_X_actionAt_5 rfl (lv_at hl 0 rfl) ?_
    refine va_get (D := D) (ci := 3) (v := .int (nI na)) (C := R_X) (T := T_X) (N := 6) hx hb hts iw_X hown hK.1 hP 0 rfl rfl 4 (by decide) (hts _ wd_73) (fun _ h9 => h9) rfl d_X_actionAt_6 ?_
    refine lv_icmp_ge (tgt := 21) hx hb d_X_actionAt_9 (by decide) (fun c_2 => ?_) (fun c_2 => ?_)
    · have c_2 : na ≤ a := (nI_leI (by omega) (by omega)).mp c_2
      omega
    · have c_2 : a < na := Nat.not_le.mp (fun z => c_2 ((nI_leI (by omega) (by omega)).mpr z))
      refine lv_aload_n hx hb d_X_actionAt_12 rfl (lv_at hl 0 rfl) ?_
      refine va_get (D := D) (ci := 3) (v := .ref (h 8)) (C := R_X) (T := T_X) (N := 6) hx hb hts iw_X hown hK.1 hP 0 rfl rfl 3 (by decide) (hts _ wd_72) (fun _ h9 => h9) rfl d_X_actionAt_13 ?_
      refine lv_iload_n hx hb d_X_actionAt_16 rfl (lv_at hl 1 rfl) ?_
      refine va_aldq hx hb hK.1 hP 1 4 rfl rfl (vp_in_nI (by omega) (by decide)) d_X_actionAt_17 ?_
      refine sx_asv (y := .ref q) (by rw [nI_clamp (by omega), hq]; rfl) ?_
      refine lv_goto (tgt := 22) hx hb d_X_actionAt_18 (by decide) ?_
      exact W.aret (v := .ref q) hx hb hr (Or.inl ⟨_, rfl⟩) (Or.inr ⟨_, rfl⟩) (fun t ht hW => ⟨some q, rfl, rfl, ht⟩) (fun _ h => by cases h) d_X_actionAt_22

set_option maxHeartbeats 4000000 in
set_option maxRecDepth 100000 in
theorem k_actAtN (l : Launch) (D : va_G) (cA : Nat → ClassId) (h : Nat → Nat) (lim : Int32) (na : Nat) (sn : Int32) (acts : Nat → Option Nat) (x : Int32) (hx0 : sx_has na x = false) : Met l y_X_actionAt w_X_actionAt ({ frames := 0, cells := 0, slots := 0, locals := 0 }) (sx_Pr D cA [.ref (h 0), .int x] (wQ cA h lim (nI na) sn acts)) (va_Sq (fun r => r = none)) 0 0 (fun _ => False) := by
  refine Met.ofW (cc := b_X_actionAt) (maxL := 2) (ret := (some (.object "SandboxTree$Action"))) (by decide) rfl ?_
  intro pG eG s m args below meth cG s₁ B hml hv
  obtain ⟨rfl, hP, hK⟩ := hv
  have hx := B.exec
  have hb := B.bytes
  have hr := B.returns
  have hts0 := atoms_spec (ws := w_X_actionAt) B.pre
  have hts : ∀ w ∈ sx_gw, w.before _ s = true := fun w h => hts0 w (List.mem_cons_of_mem _ h)
  have hown : s.vm.findClass R_X = some m.cls := findClass_of_methodNamed B.named
  have hlocks := B.notSynchronized
  have hl := lv_entry ([.ref (h 0), .int x]) (n := 2) (Nat.le_of_ble_eq_true rfl)
  rw [lg_entry_eq]
  generalize (lg_sl ([.ref (h 0), .int x]) ++ List.replicate (2 - (lg_sl ([.ref (h 0), .int x])).length) Slot.unset).toArray = ls at hl ⊢
  have hl : lv_has ls 2 [(0, .ref (h 0)), (1, .int x)] := hl
  refine lv_iload_n hx hb d_X_actionAt_0 rfl (lv_at hl 1 rfl) ?_
  refine lv_if_lt (tgt := 21) hx hb d_X_actionAt_1 (by decide) (fun c_1 => ?_) (fun c_1 => ?_)
  · refine lv_null hx hb d_X_actionAt_21 ?_
    exact W.aret (v := .null) hx hb hr (Or.inl ⟨_, rfl⟩) (Or.inl rfl) (fun t ht hW => ⟨none, rfl, rfl, ht⟩) (fun _ h => by cases h) d_X_actionAt_22
  · refine lv_iload_n hx hb d_X_actionAt_4 rfl (lv_at hl 1 rfl) ?_
    refine lv_aload_n hx hb d_X_actionAt_5 rfl (lv_at hl 0 rfl) ?_
    refine va_get (D := D) (ci := 3) (v := .int (nI na)) (C := R_X) (T := T_X) (N := 6) hx hb hts iw_X hown hK.1 hP 0 rfl rfl 4 (by decide) (hts _ wd_73) (fun _ h9 => h9) rfl d_X_actionAt_6 ?_
    refine lv_icmp_ge (tgt := 21) hx hb d_X_actionAt_9 (by decide) (fun c_2 => ?_) (fun c_2 => ?_)
    · refine lv_null hx hb d_X_actionAt_21 ?_
      exact W.aret (v := .null) hx hb hr (Or.inl ⟨_, rfl⟩) (Or.inl rfl) (fun t ht hW => ⟨none, rfl, rfl, ht⟩) (fun _ h => by cases h) d_X_actionAt_22
    · exact absurd (sx_has_tt c_1 c_2) (by rw [hx0]; decide)

set_option maxHeartbeats 4000000 in
set_option maxRecDepth 100000 in
theorem k_run (l : Launch) (D : va_G) (cA : Nat → ClassId) (h g : Nat → Nat) (lim : Int32) (na : Nat) (sn cnt : Int32) (par ltr : Nat → Int32) (ab un : Nat → Int64) (sv : Nat → Int32) (sf sl : Int64) (acts : Nat → Option Nat) (dp out : Nat → Int32) (dc : Int32) (thb : Bool) (hw br ops rf : Int32) (tp : Nat → Int32) (tc : Int32) (ts : Int64) (wv : Nat → Int32) (wf wl : Int64) (a : Nat) (ha : a < na) (hna : na ≤ 10) (hacts : acts a = some (g 0)) (hth : thb = true) : Met l y_X_runningAt w_X_runningAt ({ frames := 1, cells := 0, slots := 0, locals := 21 }) (sx_Pr D cA [.ref (h 0), .int (nI a)] (wXA cA h g lim (nI na) sn cnt par ltr ab un sv sf sl acts dp out dc (sx_bI thb) hw br ops rf tp tc ts wv wf wl)) (va_Sq (fun r => r = some (g 0))) 0 0 (fun _ => False) := by
  refine Met.ofW (cc := b_X_runningAt) (maxL := 3) (ret := (some (.object "SandboxTree$Action"))) (by decide) rfl ?_
  intro pG eG s m args below meth cG s₁ B hml hv
  obtain ⟨rfl, hP, hK⟩ := hv
  have hx := B.exec
  have hb := B.bytes
  have hr := B.returns
  have hts0 := atoms_spec (ws := w_X_runningAt) B.pre
  have hts : ∀ w ∈ sx_gw, w.before _ s = true := fun w h => hts0 w (List.mem_cons_of_mem _ h)
  have hown : s.vm.findClass R_X = some m.cls := findClass_of_methodNamed B.named
  have hlocks := B.notSynchronized
  have hl := lv_entry ([.ref (h 0), .int (nI a)]) (n := 3) (Nat.le_of_ble_eq_true rfl)
  rw [lg_entry_eq]
  generalize (lg_sl ([.ref (h 0), .int (nI a)]) ++ List.replicate (3 - (lg_sl ([.ref (h 0), .int (nI a)])).length) Slot.unset).toArray = ls at hl ⊢
  have hl : lv_has ls 3 [(0, .ref (h 0)), (1, .int (nI a))] := hl
  refine lv_aload_n hx hb d_X_runningAt_0 rfl (lv_at hl 0 rfl) ?_
  refine lv_iload_n hx hb d_X_runningAt_1 rfl (lv_at hl 1 rfl) ?_
  have hPc : va_P D vwCl (wQ cA h lim (nI na) sn acts) s.heap := hP.sub [0, 8] rfl
  refine va_csq (va_runV (As := [.int (nI a)]) (rest := []) ⟨hx, hb, hml, hown, hts⟩ (k_actAt l D cA h lim na sn acts a (by omega) (by omega) (g 0) hacts) (cwV 1 hts (sx_GV wd_212 wd_214 ws_0 wd_1 wd_215) rfl rfl rfl (by decide +kernel) ⟨Nat.le_of_ble_eq_true rfl, Nat.le_of_ble_eq_true rfl⟩) (sx_preV hK hPc (va_recv hK.1 hPc (ci := 3) (q0 := 0) rfl rfl)) rfl rfl hl.1 rfl (lv_room (Nat.le_of_ble_eq_true rfl)) d_X_runningAt_2 ⟨Nat.le_of_ble_eq_true rfl, Nat.le_of_ble_eq_true rfl⟩).run (fun r_2 hr_1 => ?_)
  subst hr_1
  refine sx_asv (y := .ref (g 0)) rfl ?_
  refine lv_astore_n (lv' := [(2, .ref (g 0)), (0, .ref (h 0)), (1, .int (nI a))]) hx hb d_X_runningAt_5 rfl hl (by decide) rfl (fun ls hl => ?_)
  refine lv_aload_n hx hb d_X_runningAt_6 rfl (lv_at hl 0 rfl) ?_
  refine lv_ifnull hx hb d_X_runningAt_7 ?_
  refine lv_aload_n hx hb d_X_runningAt_10 rfl (lv_at hl 0 rfl) ?_
  refine va_getN (D := D) (ci := 0) (v := .int (sx_bI thb)) (C := R_A) (T := T_A) (N := 12) hx hb hts iw_A hown hK.1 hP 9 rfl rfl 4 (by decide) (va_Nw.use rfl (hK.2.1 _ wd_168)) (fun _ h9 => h9) rfl d_X_runningAt_11 ?_
  refine lv_if_eq (tgt := 21) hx hb d_X_runningAt_14 (by decide) (fun c_3 => ?_) (fun c_3 => ?_)
  · exact absurd (sx_bI0 c_3) (by rw [hth]; decide)
  · have c_3 : thb = true := sx_bIn c_3
    refine lv_aload_n hx hb d_X_runningAt_17 rfl (lv_at hl 0 rfl) ?_
    refine lv_goto (tgt := 22) hx hb d_X_runningAt_18 (by decide) ?_
    exact W.aret (v := .ref (g 0)) hx hb hr (Or.inl ⟨_, rfl⟩) (Or.inr ⟨_, rfl⟩) (fun t ht hW => ⟨some (g 0), rfl, rfl, ht⟩) (fun _ h => by cases h) d_X_runningAt_22

set_option maxHeartbeats 4000000 in
set_option maxRecDepth 100000 in
theorem k_runN (l : Launch) (D : va_G) (cA : Nat → ClassId) (h g : Nat → Nat) (lim : Int32) (na : Nat) (sn cnt : Int32) (par ltr : Nat → Int32) (ab un : Nat → Int64) (sv : Nat → Int32) (sf sl : Int64) (acts : Nat → Option Nat) (dp out : Nat → Int32) (dc : Int32) (thb : Bool) (hw br ops rf : Int32) (tp : Nat → Int32) (tc : Int32) (ts : Int64) (wv : Nat → Int32) (wf wl : Int64) (a : Nat) (ha : a < na) (hna : na ≤ 10) (hacts : acts a = some (g 0)) (hth : thb = false) : Met l y_X_runningAt w_X_runningAt ({ frames := 1, cells := 0, slots := 0, locals := 21 }) (sx_Pr D cA [.ref (h 0), .int (nI a)] (wXA cA h g lim (nI na) sn cnt par ltr ab un sv sf sl acts dp out dc (sx_bI thb) hw br ops rf tp tc ts wv wf wl)) (va_Sq (fun r => r = none)) 0 0 (fun _ => False) := by
  refine Met.ofW (cc := b_X_runningAt) (maxL := 3) (ret := (some (.object "SandboxTree$Action"))) (by decide) rfl ?_
  intro pG eG s m args below meth cG s₁ B hml hv
  obtain ⟨rfl, hP, hK⟩ := hv
  have hx := B.exec
  have hb := B.bytes
  have hr := B.returns
  have hts0 := atoms_spec (ws := w_X_runningAt) B.pre
  have hts : ∀ w ∈ sx_gw, w.before _ s = true := fun w h => hts0 w (List.mem_cons_of_mem _ h)
  have hown : s.vm.findClass R_X = some m.cls := findClass_of_methodNamed B.named
  have hlocks := B.notSynchronized
  have hl := lv_entry ([.ref (h 0), .int (nI a)]) (n := 3) (Nat.le_of_ble_eq_true rfl)
  rw [lg_entry_eq]
  generalize (lg_sl ([.ref (h 0), .int (nI a)]) ++ List.replicate (3 - (lg_sl ([.ref (h 0), .int (nI a)])).length) Slot.unset).toArray = ls at hl ⊢
  have hl : lv_has ls 3 [(0, .ref (h 0)), (1, .int (nI a))] := hl
  refine lv_aload_n hx hb d_X_runningAt_0 rfl (lv_at hl 0 rfl) ?_
  refine lv_iload_n hx hb d_X_runningAt_1 rfl (lv_at hl 1 rfl) ?_
  have hPc : va_P D vwCl (wQ cA h lim (nI na) sn acts) s.heap := hP.sub [0, 8] rfl
  refine va_csq (va_runV (As := [.int (nI a)]) (rest := []) ⟨hx, hb, hml, hown, hts⟩ (k_actAt l D cA h lim na sn acts a (by omega) (by omega) (g 0) hacts) (cwV 1 hts (sx_GV wd_212 wd_214 ws_0 wd_1 wd_215) rfl rfl rfl (by decide +kernel) ⟨Nat.le_of_ble_eq_true rfl, Nat.le_of_ble_eq_true rfl⟩) (sx_preV hK hPc (va_recv hK.1 hPc (ci := 3) (q0 := 0) rfl rfl)) rfl rfl hl.1 rfl (lv_room (Nat.le_of_ble_eq_true rfl)) d_X_runningAt_2 ⟨Nat.le_of_ble_eq_true rfl, Nat.le_of_ble_eq_true rfl⟩).run (fun r_2 hr_1 => ?_)
  subst hr_1
  refine sx_asv (y := .ref (g 0)) rfl ?_
  refine lv_astore_n (lv' := [(2, .ref (g 0)), (0, .ref (h 0)), (1, .int (nI a))]) hx hb d_X_runningAt_5 rfl hl (by decide) rfl (fun ls hl => ?_)
  refine lv_aload_n hx hb d_X_runningAt_6 rfl (lv_at hl 0 rfl) ?_
  refine lv_ifnull hx hb d_X_runningAt_7 ?_
  refine lv_aload_n hx hb d_X_runningAt_10 rfl (lv_at hl 0 rfl) ?_
  refine va_getN (D := D) (ci := 0) (v := .int (sx_bI thb)) (C := R_A) (T := T_A) (N := 12) hx hb hts iw_A hown hK.1 hP 9 rfl rfl 4 (by decide) (va_Nw.use rfl (hK.2.1 _ wd_168)) (fun _ h9 => h9) rfl d_X_runningAt_11 ?_
  refine lv_if_eq (tgt := 21) hx hb d_X_runningAt_14 (by decide) (fun c_3 => ?_) (fun c_3 => ?_)
  · have c_3 : thb = false := sx_bI0 c_3
    refine lv_null hx hb d_X_runningAt_21 ?_
    exact W.aret (v := .null) hx hb hr (Or.inl ⟨_, rfl⟩) (Or.inl rfl) (fun t ht hW => ⟨none, rfl, rfl, ht⟩) (fun _ h => by cases h) d_X_runningAt_22
  · exact absurd (sx_bIn c_3) (by rw [hth]; decide)

set_option maxHeartbeats 4000000 in
set_option maxRecDepth 100000 in
theorem k_runO (l : Launch) (D : va_G) (cA : Nat → ClassId) (h : Nat → Nat) (lim : Int32) (na : Nat) (sn : Int32) (acts : Nat → Option Nat) (x : Int32) (hx0 : sx_has na x = false) : Met l y_X_runningAt w_X_runningAt ({ frames := 1, cells := 0, slots := 0, locals := 21 }) (sx_Pr D cA [.ref (h 0), .int x] (wQ cA h lim (nI na) sn acts)) (va_Sq (fun r => r = none)) 0 0 (fun _ => False) := by
  refine Met.ofW (cc := b_X_runningAt) (maxL := 3) (ret := (some (.object "SandboxTree$Action"))) (by decide) rfl ?_
  intro pG eG s m args below meth cG s₁ B hml hv
  obtain ⟨rfl, hP, hK⟩ := hv
  have hx := B.exec
  have hb := B.bytes
  have hr := B.returns
  have hts0 := atoms_spec (ws := w_X_runningAt) B.pre
  have hts : ∀ w ∈ sx_gw, w.before _ s = true := fun w h => hts0 w (List.mem_cons_of_mem _ h)
  have hown : s.vm.findClass R_X = some m.cls := findClass_of_methodNamed B.named
  have hlocks := B.notSynchronized
  have hl := lv_entry ([.ref (h 0), .int x]) (n := 3) (Nat.le_of_ble_eq_true rfl)
  rw [lg_entry_eq]
  generalize (lg_sl ([.ref (h 0), .int x]) ++ List.replicate (3 - (lg_sl ([.ref (h 0), .int x])).length) Slot.unset).toArray = ls at hl ⊢
  have hl : lv_has ls 3 [(0, .ref (h 0)), (1, .int x)] := hl
  refine lv_aload_n hx hb d_X_runningAt_0 rfl (lv_at hl 0 rfl) ?_
  refine lv_iload_n hx hb d_X_runningAt_1 rfl (lv_at hl 1 rfl) ?_
  refine va_csq (va_runV (As := [.int x]) (rest := []) ⟨hx, hb, hml, hown, hts⟩ (k_actAtN l D cA h lim na sn acts x hx0) (cwV 1 hts (sx_GV wd_212 wd_214 ws_0 wd_1 wd_215) rfl rfl rfl (by decide +kernel) ⟨Nat.le_of_ble_eq_true rfl, Nat.le_of_ble_eq_true rfl⟩) (sx_preV hK hP (va_recv hK.1 hP (ci := 3) (q0 := 0) rfl rfl)) rfl rfl hl.1 rfl (lv_room (Nat.le_of_ble_eq_true rfl)) d_X_runningAt_2 ⟨Nat.le_of_ble_eq_true rfl, Nat.le_of_ble_eq_true rfl⟩).run (fun r_2 hr_1 => ?_)
  subst hr_1
  refine sx_asv (y := .null) rfl ?_
  refine lv_astore_nN (lv' := [(2, .null), (0, .ref (h 0)), (1, .int x)]) hx hb d_X_runningAt_5 rfl hl (by decide) rfl (fun ls hl => ?_)
  refine lv_aload_nN hx hb d_X_runningAt_6 rfl (lv_at hl 0 rfl) ?_
  refine lv_ifnullN (tgt := 21) hx hb d_X_runningAt_7 (by decide) ?_
  refine lv_null hx hb d_X_runningAt_21 ?_
  exact W.aret (v := .null) hx hb hr (Or.inl ⟨_, rfl⟩) (Or.inl rfl) (fun t ht hW => ⟨none, rfl, rfl, ht⟩) (fun _ h => by cases h) d_X_runningAt_22

set_option maxHeartbeats 4000000 in
set_option maxRecDepth 100000 in
theorem k_gather (l : Launch) (D : va_G) (cA : Nat → ClassId) (sz : Nat) (h g : Nat → Nat) (lim ac sn : Int32) (n : Nat) (α : sx_A) (ab un : Nat → Int64) (sv : Nat → Int32) (sf sl : Int64) (acts : Nat → Option Nat) (a : Nat) (dp out : Nat → Int32) (th hw br ops rf : Int32) (tp : Nat → Int32) (tc : Int32) (ts : Int64) (wv : Nat → Int32) (wf wl : Int64) (na L : Nat) (hI : sx_INV n na L α) (ha : a < na) (hR : sx_RP n (α 1) ab un) (hDO : sx_DO α a dp out) (hW0 : sx_RW (sx_wd_ α a) wv wf wl) (hS0 : sx_RW (α 3) sv sf sl) (hf : sx_fl n α a (sx_dN α a) 0 0 = 0) : Met l y_X_gather w_X_gather ({ frames := 3, cells := 0, slots := 0, locals := 67 }) (sx_Pw D cA [.ref (h 0), .ref (g 0)] (wXA cA h g lim ac sn (nI n) (α 1) (α 2) ab un sv sf sl acts dp out (nI (sx_dN α a)) th hw br ops rf tp tc ts wv wf wl) sz) (va_Qi (fun r (u : (Nat → Int32) × Int64 × Int64) => r = (bif sx_cl n α a then -3 else bif sx_way n α a then -4 else sx_finC n α a) ∧ sx_RW (bif !sx_cl n α a && !sx_way n α a then sx_srow n α a n else α 3) u.1 u.2.1 u.2.2) (sx_Bw D (wXA cA h g lim ac sn (nI n) (α 1) (α 2) ab un sv sf sl acts dp out (nI (sx_dN α a)) th hw br ops rf tp tc ts wv wf wl) sz (fun u => wXA cA h g lim ac sn (nI n) (α 1) (α 2) ab un (u.1) (u.2.1) (u.2.2) acts dp out (nI (sx_dN α a)) th hw br ops rf tp tc ts wv wf wl)) (va_A (wXA cA h g lim ac sn (nI n) (α 1) (α 2) ab un sv sf sl acts dp out (nI (sx_dN α a)) th hw br ops rf tp tc ts wv wf wl) sz)) 0 0 (va_A (wXA cA h g lim ac sn (nI n) (α 1) (α 2) ab un sv sf sl acts dp out (nI (sx_dN α a)) th hw br ops rf tp tc ts wv wf wl) sz) := by
  refine Met.ofW (cc := b_X_gather) (maxL := 11) (ret := (some .int)) (by decide) rfl ?_
  intro pG eG s m args below meth cG s₁ B hml hv
  obtain ⟨rfl, hsz, hP, hK, hD0⟩ := hv
  have hx := B.exec
  have hb := B.bytes
  have hr := B.returns
  have hts0 := atoms_spec (ws := w_X_gather) B.pre
  have hts : ∀ w ∈ sx_gw, w.before _ s = true := fun w h => hts0 w (List.mem_cons_of_mem _ h)
  have hown : s.vm.findClass R_X = some m.cls := findClass_of_methodNamed B.named
  have hlocks := B.notSynchronized
  subst hsz
  have hD := hD0.self (sz := s.heap.size)
  generalize hAe : va_A (wXA cA h g lim ac sn (nI n) (α 1) (α 2) ab un sv sf sl acts dp out (nI (sx_dN α a)) th hw br ops rf tp tc ts wv wf wl) s.heap.size = A at hD ⊢
  have hA : ∀ q : Nat, s.heap.size ≤ q → A q := fun q h => by rw [← hAe]; exact Or.inr h
  have hS : va_S A s.heap s.heap [] := va_S.rf
  have hl := lv_entry ([.ref (h 0), .ref (g 0)]) (n := 11) (Nat.le_of_ble_eq_true rfl)
  rw [lg_entry_eq]
  generalize (lg_sl ([.ref (h 0), .ref (g 0)]) ++ List.replicate (11 - (lg_sl ([.ref (h 0), .ref (g 0)])).length) Slot.unset).toArray = ls at hl ⊢
  have hl : lv_has ls 11 [(0, .ref (h 0)), (1, .ref (g 0))] := hl
  have hn31 := sx_INV_n hI
  have hn60 := hI.1.1.2
  have h1n := hI.1.1.1
  have hAc := sx_INV_A hI ha
  have hd12 := (sx_dN_ok hAc).1
  refine lv_aload_n hx hb d_X_gather_0 rfl (lv_at hl 0 rfl) ?_
  refine lv_aload_n hx hb d_X_gather_1 rfl (lv_at hl 1 rfl) ?_
  refine lv_iconst (v := nI 1) hx hb d_X_gather_2 (by decide +kernel) ?_
  refine vp_callSl (va_runV (As := [.ref (g 0), .int (nI 1)]) (rest := []) ⟨hx, hb, hml, hown, hts⟩ (k_underD l D cA h g lim ac sn n α ab un sv sf sl acts a dp out th hw br ops rf tp tc ts wv wf wl na L hI ha hR hDO true) (cwV 2 hts (sx_GV wd_245 wd_247 ws_3 wd_1 wd_248) rfl rfl rfl (by decide +kernel) ⟨Nat.le_of_ble_eq_true rfl, Nat.le_of_ble_eq_true rfl⟩) (sx_preV hK hP (va_recv hK.1 hP (ci := 3) (q0 := 0) rfl rfl)) rfl rfl hl.1 rfl (lv_room (Nat.le_of_ble_eq_true rfl)) d_X_gather_3 ⟨Nat.le_of_ble_eq_true rfl, Nat.le_of_ble_eq_true rfl⟩).run (fun r_2 hr_1 => ?_)
  refine lv_lstore_n (lv' := [(2, .long r_2), (0, .ref (h 0)), (1, .ref (g 0))]) hx hb d_X_gather_6 rfl hl (by decide) rfl (fun ls hl => ?_)
  have hrp := hr_1
  refine lv_lload_n hx hb d_X_gather_7 rfl (lv_at hl 0 rfl) ?_
  refine lv_aload_n hx hb d_X_gather_8 rfl (lv_at hl 2 rfl) ?_
  refine va_getN (D := D) (ci := 0) (v := .ref (g 3)) (C := R_A) (T := T_A) (N := 12) hx hb hts iw_A hown hK.1 hP 9 rfl rfl 3 (by decide) (va_Nw.use rfl (hK.2.1 _ wd_166)) (fun _ h9 => h9) rfl d_X_gather_9 ?_
  have hPc : va_P D vwCl (wS cA (g 3) (g 4) wv wf wl) s.heap := hP.sub [12, 13] rfl
  refine vp_callSl (va_runV (As := []) (rest := [.long r_2]) ⟨hx, hb, hml, hown, hts⟩ (k_taken l D cA (g 3) (g 4) wv wf wl ) (cwV 0 hts (sx_GV wd_121 wd_122 wd_123 wd_4 wd_124) rfl rfl rfl (by decide +kernel) ⟨Nat.le_of_ble_eq_true rfl, Nat.le_of_ble_eq_true rfl⟩) (sx_preV hK hPc (va_recv hK.1 hPc (ci := 2) (q0 := 0) rfl rfl)) rfl rfl hl.1 rfl (lv_room (Nat.le_of_ble_eq_true rfl)) d_X_gather_12 ⟨Nat.le_of_ble_eq_true rfl, Nat.le_of_ble_eq_true rfl⟩).run (fun r_4 hr_3 => ?_)
  subst hr_3
  refine lv_land hx hb d_X_gather_15 ?_
  refine lv_lstore (lv' := [(4, .long (r_2 &&& (wf ||| wl))), (2, .long r_2), (0, .ref (h 0)), (1, .ref (g 0))]) hx hb d_X_gather_16 hl (by decide) rfl (fun ls hl => ?_)
  have hcm := sx_com_bit hI ha hrp hW0
  obtain ⟨cm, ecm⟩ : ∃ y : Int64, y = r_2 &&& (wf ||| wl) := ⟨_, rfl⟩
  rw [← ecm] at hcm hl
  have hl : lv_has ls 11 [(4, .long cm), (2, .long r_2), (0, .ref (h 0)), (1, .ref (g 0))] := hl
  refine lv_aload_n hx hb d_X_gather_18 rfl (lv_at hl 2 rfl) ?_
  refine va_get (D := D) (ci := 3) (v := .ref (h 1)) (C := R_X) (T := T_X) (N := 6) hx hb hts iw_X hown hK.1 hP 0 rfl rfl 1 (by decide) (hts _ wd_70) (fun _ h9 => h9) rfl d_X_gather_19 ?_
  refine lv_lload hx hb d_X_gather_22 (lv_at hl 0 rfl) ?_
  have hPc : va_P D vwCl (wP cA (h 1) (h 2) (h 3) (h 4) (h 5) (nI n) (α 1) (α 2) ab un) s.heap := hP.sub [1, 2, 3, 4, 5] rfl
  refine vp_callSl (va_runV (As := [.long cm]) (rest := []) ⟨hx, hb, hml, hown, hts⟩ (k_above l D cA (h 1) (h 2) (h 3) (h 4) (h 5) n (α 1) (α 2) ab un hR (by omega) cm) (cwV 1 hts (sx_GV wd_338 wd_339 wd_340 wd_3 wd_341) rfl rfl rfl (by decide +kernel) ⟨Nat.le_of_ble_eq_true rfl, Nat.le_of_ble_eq_true rfl⟩) (sx_preV hK hPc (va_recv hK.1 hPc (ci := 1) (q0 := 0) rfl rfl)) rfl rfl hl.1 rfl (lv_room (Nat.le_of_ble_eq_true rfl)) d_X_gather_24 ⟨Nat.le_of_ble_eq_true rfl, Nat.le_of_ble_eq_true rfl⟩).run (fun r_6 hr_5 => ?_)
  refine lv_lstore (lv' := [(6, .long r_6), (4, .long cm), (2, .long r_2), (0, .ref (h 0)), (1, .ref (g 0))]) hx hb d_X_gather_27 hl (by decide) rfl (fun ls hl => ?_)
  have hca : ∀ q, q < 64 → sx_bt r_6 q = sx_mk n α a q := fun q hq => by rw [hr_5 q hq]; exact sx_mk_eq hI hcm q
  refine lv_aload_n hx hb d_X_gather_29 rfl (lv_at hl 3 rfl) ?_
  refine va_get (D := D) (ci := 3) (v := .ref (h 1)) (C := R_X) (T := T_X) (N := 6) hx hb hts iw_X hown hK.1 hP 0 rfl rfl 1 (by decide) (hts _ wd_70) (fun _ h9 => h9) rfl d_X_gather_30 ?_
  refine lv_lload hx hb d_X_gather_33 (lv_at hl 0 rfl) ?_
  have hPc : va_P D vwCl (wP cA (h 1) (h 2) (h 3) (h 4) (h 5) (nI n) (α 1) (α 2) ab un) s.heap := hP.sub [1, 2, 3, 4, 5] rfl
  refine vp_callSi (va_runV (As := [.long r_6]) (rest := []) ⟨hx, hb, hml, hown, hts⟩ (k_clash l D cA (h 1) (h 2) (h 3) (h 4) (h 5) n α ab un (by omega) (by omega) hI.2.2.2.1 r_6) (cwV 1 hts (sx_GV wd_342 wd_343 wd_344 wd_3 wd_345) rfl rfl rfl (by decide +kernel) ⟨Nat.le_of_ble_eq_true rfl, Nat.le_of_ble_eq_true rfl⟩) (sx_preV hK hPc (va_recv hK.1 hPc (ci := 1) (q0 := 0) rfl rfl)) rfl rfl hl.1 rfl (lv_room (Nat.le_of_ble_eq_true rfl)) d_X_gather_35 ⟨Nat.le_of_ble_eq_true rfl, Nat.le_of_ble_eq_true rfl⟩).run (fun r_8 hr_7 => ?_)
  subst hr_7
  refine lv_if_eq (tgt := 44) hx hb d_X_gather_38 (by decide) (fun c_9 => ?_) (fun c_9 => ?_)
  · have w38 : sx_cl n α a = false := by have z := sx_bI0 c_9; unfold sx_clF at z; rw [sx_clash hI (fun k hk => hca k (by omega))] at z; exact z
    refine lv_aload_n hx hb d_X_gather_44 rfl (lv_at hl 3 rfl) ?_
    refine va_get (D := D) (ci := 3) (v := .ref (h 6)) (C := R_X) (T := T_X) (N := 6) hx hb hts iw_X hown hK.1 hP 0 rfl rfl 2 (by decide) (hts _ wd_71) (fun _ h9 => h9) rfl d_X_gather_45 ?_
    have hPc : va_P D vwCl (wS cA (h 6) (h 7) sv sf sl) s.heap := hP.sub [6, 7] rfl
    refine vp_callSl (va_runV (As := []) (rest := []) ⟨hx, hb, hml, hown, hts⟩ (k_taken l D cA (h 6) (h 7) sv sf sl ) (cwV 0 hts (sx_GV wd_121 wd_122 wd_123 wd_4 wd_124) rfl rfl rfl (by decide +kernel) ⟨Nat.le_of_ble_eq_true rfl, Nat.le_of_ble_eq_true rfl⟩) (sx_preV hK hPc (va_recv hK.1 hPc (ci := 2) (q0 := 0) rfl rfl)) rfl rfl hl.1 rfl (lv_room (Nat.le_of_ble_eq_true rfl)) d_X_gather_48 ⟨Nat.le_of_ble_eq_true rfl, Nat.le_of_ble_eq_true rfl⟩).run (fun r_11 hr_10 => ?_)
    subst hr_10
    refine lv_lload_n hx hb d_X_gather_51 rfl (lv_at hl 2 rfl) ?_
    refine lv_ldc2 (own := R_X) (v := (-1)) hx hb hown (hts _ wd_296) d_X_gather_52 ?_
    refine lv_lxor hx hb d_X_gather_55 ?_
    refine lv_land hx hb d_X_gather_56 ?_
    refine lv_lstore (lv' := [(8, .long ((sf ||| sl) &&& (r_2 ^^^ (-1)))), (6, .long r_6), (4, .long cm), (2, .long r_2), (0, .ref (h 0)), (1, .ref (g 0))]) hx hb d_X_gather_57 hl (by decide) rfl (fun ls hl => ?_)
    refine lv_lload hx hb d_X_gather_59 (lv_at hl 1 rfl) ?_
    refine lv_lload hx hb d_X_gather_61 (lv_at hl 0 rfl) ?_
    refine lv_land hx hb d_X_gather_63 ?_
    refine lv_lconst (v := 0) hx hb d_X_gather_64 (by decide +kernel) ?_
    refine W.lcmp hx hb d_X_gather_65 ?_
    refine lv_if_eq (tgt := 72) hx hb d_X_gather_66 (by decide) (fun c_12 => ?_) (fun c_12 => ?_)
    · have w66 := (sx_way_eq hI hca hrp hS0).mp (sx_cmp0.mp c_12)
      refine lv_iconst (v := nI 1) hx hb d_X_gather_72 (by decide +kernel) ?_
      refine lv_istore (lv' := [(10, .int (nI 1)), (8, .long ((sf ||| sl) &&& (r_2 ^^^ (-1)))), (6, .long r_6), (4, .long cm), (2, .long r_2), (0, .ref (h 0)), (1, .ref (g 0))]) hx hb d_X_gather_73 hl (by decide) rfl (fun ls hl => ?_)
      have hS1 : sx_RW (sx_srow n α a 1) sv sf sl := by rw [sx_srow_1]; exact hS0
      refine sx_loopW (σ := Nat × (Nat → Int32) × Int64 × Int64) (fun x => 1 ≤ x.1 ∧ x.1 ≤ 60 ∧ sx_RW (sx_srow n α a x.1) x.2.1 x.2.2.1 x.2.2.2) (fun x => [(10, .int (nI x.1)), (8, .long ((sf ||| sl) &&& (r_2 ^^^ (-1)))), (6, .long r_6), (4, .long cm), (2, .long r_2), (0, .ref (h 0)), (1, .ref (g 0))]) (fun x => wXA cA h g lim ac sn (nI n) (α 1) (α 2) ab un x.2.1 x.2.2.1 x.2.2.2 acts dp out (nI (sx_dN α a)) th hw br ops rf tp tc ts wv wf wl) (fun x => 60 - x.1) (1, sv, sf, sl) (⟨by omega, by omega, hS1⟩) (lv_sub hl [0, 1, 2, 3, 4, 5, 6] rfl) hP hD hS (fun x hJ ih ls H locs hl hP hD hS => ?_)
      obtain ⟨i, v, f, l1⟩ := x
      obtain ⟨hi1, hi60, hJ⟩ := hJ
      have hl : lv_has ls 11 [(10, .int (nI i)), (8, .long ((sf ||| sl) &&& (r_2 ^^^ (-1)))), (6, .long r_6), (4, .long cm), (2, .long r_2), (0, .ref (h 0)), (1, .ref (g 0))] := hl
      have hP : va_P D vwCl (wXA cA h g lim ac sn (nI n) (α 1) (α 2) ab un v f l1 acts dp out (nI (sx_dN α a)) th hw br ops rf tp tc ts wv wf wl) H := hP
      have hD : va_D A (wXA cA h g lim ac sn (nI n) (α 1) (α 2) ab un v f l1 acts dp out (nI (sx_dN α a)) th hw br ops rf tp tc ts wv wf wl) := hD
      have ih_75 := ih
      refine lv_iload hx hb d_X_gather_75 (lv_at hl 0 rfl) ?_
      refine lv_bipush (v := nI 60) hx hb d_X_gather_77 (by decide +kernel) ?_
      refine lv_icmp_ge (tgt := 137) hx hb d_X_gather_79 (by decide) (fun c_13 => ?_) (fun c_13 => ?_)
      · have c_13 : 60 ≤ i := (nI_leI (by decide) (by omega)).mp c_13
        refine lv_lload hx hb d_X_gather_137 (lv_at hl 3 rfl) ?_
        refine vp_callSi (va_runS (As := [.long cm]) (rest := []) ⟨hx, hb, hml, hown, hts⟩ (k_bits l D cA cm) (va_cwS 1 hts (sx_GS wd_256 wd_257 wd_8 wd_258) rfl rfl rfl (by decide +kernel) ⟨Nat.le_of_ble_eq_true rfl, Nat.le_of_ble_eq_true rfl⟩) (sx_preS hK (sx_P0 : va_P D vwCl [] H)) rfl rfl hl.1 rfl (lv_room (Nat.le_of_ble_eq_true rfl)) d_X_gather_139 ⟨Nat.le_of_ble_eq_true rfl, Nat.le_of_ble_eq_true rfl⟩).run (fun r_15 hr_14 => ?_)
        subst hr_14
        have hP9 : va_P D vwCl (wXA cA h g lim ac sn (nI n) (α 1) (α 2) ab un (v) (f) (l1) acts dp out (nI (sx_dN α a)) th hw br ops rf tp tc ts wv wf wl) H := hP
        have hD9 : va_D A (wXA cA h g lim ac sn (nI n) (α 1) (α 2) ab un (v) (f) (l1) acts dp out (nI (sx_dN α a)) th hw br ops rf tp tc ts wv wf wl) := hD
        exact W.iret (v := nI (sx_cnt (sx_bt cm) 64)) hx hb hr (fun t ht hW => ⟨⟨nI (sx_cnt (sx_bt cm) 64), (v, f, l1), rfl, ⟨by rw [w38, w66]; exact congrArg nI (sx_cnt_com hI ha hf hcm), by rw [w38, w66]; show sx_RW (sx_srow n α a n) v f l1; rw [← sx_srow_e (show n ≤ 60 by omega)]; rw [show 60 = i by omega]; exact hJ⟩, by rw [ht]; exact hP9, by rw [hAe]; exact hD9⟩, hS.F ht⟩) hS.2.2 d_X_gather_142
      · have c_13 : i < 60 := Nat.not_le.mp (fun z => c_13 ((nI_leI (by decide) (by omega)).mpr z))
        refine lv_lload hx hb d_X_gather_82 (lv_at hl 3 rfl) ?_
        refine lv_iload hx hb d_X_gather_84 (lv_at hl 0 rfl) ?_
        refine vp_callSi (va_runS (As := [.long cm, .int (nI i)]) (rest := []) ⟨hx, hb, hml, hown, hts⟩ (k_holds l D cA cm i (by omega)) (va_cwS 2 hts (sx_GS wd_220 wd_109 wd_1 wd_110) rfl rfl rfl (by decide +kernel) ⟨Nat.le_of_ble_eq_true rfl, Nat.le_of_ble_eq_true rfl⟩) (sx_preS hK (sx_P0 : va_P D vwCl [] H)) rfl rfl hl.1 rfl (lv_room (Nat.le_of_ble_eq_true rfl)) d_X_gather_86 ⟨Nat.le_of_ble_eq_true rfl, Nat.le_of_ble_eq_true rfl⟩).run (fun r_17 hr_16 => ?_)
        subst hr_16
        refine lv_if_eq (tgt := 113) hx hb d_X_gather_89 (by decide) (fun c_18 => ?_) (fun c_18 => ?_)
        · have c_18 : (sx_bt cm i) = false := sx_bI0 c_18
          refine lv_lload_n hx hb d_X_gather_113 rfl (lv_at hl 4 rfl) ?_
          refine lv_iload hx hb d_X_gather_114 (lv_at hl 0 rfl) ?_
          refine vp_callSi (va_runS (As := [.long r_2, .int (nI i)]) (rest := []) ⟨hx, hb, hml, hown, hts⟩ (k_holds l D cA r_2 i (by omega)) (va_cwS 2 hts (sx_GS wd_220 wd_109 wd_1 wd_110) rfl rfl rfl (by decide +kernel) ⟨Nat.le_of_ble_eq_true rfl, Nat.le_of_ble_eq_true rfl⟩) (sx_preS hK (sx_P0 : va_P D vwCl [] H)) rfl rfl hl.1 rfl (lv_room (Nat.le_of_ble_eq_true rfl)) d_X_gather_116 ⟨Nat.le_of_ble_eq_true rfl, Nat.le_of_ble_eq_true rfl⟩).run (fun r_20 hr_19 => ?_)
          subst hr_19
          refine lv_if_eq (tgt := 131) hx hb d_X_gather_119 (by decide) (fun c_21 => ?_) (fun c_21 => ?_)
          · have c_21 : (sx_bt r_2 i) = false := sx_bI0 c_21
            refine lv_iinc (v := nI (i + 1)) (lv' := [(10, .int (nI (i + 1))), (8, .long ((sf ||| sl) &&& (r_2 ^^^ (-1)))), (6, .long r_6), (4, .long cm), (2, .long r_2), (0, .ref (h 0)), (1, .ref (g 0))]) hx hb d_X_gather_131 hl (k := 0) rfl (nI_1 i) (by decide) rfl (fun ls hl => ?_)
            refine lv_goto (tgt := 75) hx hb d_X_gather_134 (by decide) ?_
            have wc : sx_cm n α a i = false := by have z := c_21; rw [hrp i (by omega)] at z; rw [sx_cmI]; cases h1 : decide (i < n) <;> simp_all
            exact ih_75 (i + 1, v, f, l1) (⟨by omega, by omega, by rw [← sx_srow_f wc]; exact hJ⟩) (by omega) ls _ _ (lv_sub hl [0, 1, 2, 3, 4, 5, 6] rfl) hP hD hS
          · have c_21 : (sx_bt r_2 i) = true := sx_bIn c_21
            refine lv_aload_n hx hb d_X_gather_122 rfl (lv_at hl 5 rfl) ?_
            refine va_get (D := D) (ci := 3) (v := .ref (h 6)) (C := R_X) (T := T_X) (N := 6) hx hb hts iw_X hown hK.1 hP 0 rfl rfl 2 (by decide) (hts _ wd_71) (fun _ h9 => h9) rfl d_X_gather_123 ?_
            refine lv_iload hx hb d_X_gather_126 (lv_at hl 0 rfl) ?_
            have hPc : va_P D vwCl (wS cA (h 6) (h 7) v f l1) H := hP.sub [6, 7] rfl
            have hDc : va_D A (wS cA (h 6) (h 7) v f l1) := hD.sub [6, 7] (by decide) rfl
            refine sx_callv (wr := [(h 0, .inr (3, [.int lim, .ref (h 1), .ref (h 6), .ref (h 8), .int ac, .int sn])), (h 1, .inr (1, [.ref (h 2), .ref (h 3), .ref (h 4), .ref (h 5), .int (nI n)])), (h 2, .inl (cA 0, 60, .inl (α 1))), (h 3, .inl (cA 2, 60, .inl (α 2))), (h 4, .inl (cA 3, 60, .inr (.inl ab))), (h 5, .inl (cA 3, 60, .inr (.inl un))), (h 8, .inl (cA 4, 10, .inr (.inr (.inr (.inr acts))))), (g 0, .inr (0, [.ref (g 1), .ref (g 2), .int (nI (sx_dN α a)), .ref (g 3), .int th, .int hw, .int br, .int ops, .int rf, .ref (g 5), .int tc, .long ts])), (g 1, .inl (cA 0, 12, .inl dp)), (g 2, .inl (cA 1, 12, .inl out)), (g 3, .inr (2, [.ref (g 4), .long wf, .long wl])), (g 4, .inl (cA 0, 60, .inl wv)), (g 5, .inl (cA 0, 60, .inl tp))]) (va_runV (As := [.int (nI i)]) (rest := []) ⟨hx, hb, hml, hown, hts⟩ (k_away l D cA H.size (h 6) (h 7) v f l1 i) (cwV 1 hts (sx_GV wd_125 wd_126 wd_127 wd_4 wd_128) rfl rfl rfl (by decide +kernel) ⟨Nat.le_of_ble_eq_true rfl, Nat.le_of_ble_eq_true rfl⟩) (sx_preVw hK hPc hDc (va_recv hK.1 hPc (ci := 2) (q0 := 0) rfl rfl)) rfl rfl hl.1 rfl (lv_room (Nat.le_of_ble_eq_true rfl)) d_X_gather_128 ⟨Nat.le_of_ble_eq_true rfl, Nat.le_of_ble_eq_true rfl⟩) hP hD hS hA [6, 7] [0, 1, 2, 3, 4, 5, 8, 9, 10, 11, 12, 13, 14] rfl rfl (by decide) (by decide) (fun u_24 H locs hr_22 hP hD hS => ?_)
            have hP : va_P D vwCl (wXA cA h g lim ac sn (nI n) (α 1) (α 2) ab un v (f &&& (sx_on i ^^^ (-1))) (l1 &&& (sx_on i ^^^ (-1))) acts dp out (nI (sx_dN α a)) th hw br ops rf tp tc ts wv wf wl) H := hP.sub [0, 1, 2, 3, 4, 5, 13, 14, 6, 7, 8, 9, 10, 11, 12] rfl
            have hD : va_D A (wXA cA h g lim ac sn (nI n) (α 1) (α 2) ab un v (f &&& (sx_on i ^^^ (-1))) (l1 &&& (sx_on i ^^^ (-1))) acts dp out (nI (sx_dN α a)) th hw br ops rf tp tc ts wv wf wl) := hD.sub [0, 1, 2, 3, 4, 5, 13, 14, 6, 7, 8, 9, 10, 11, 12] (by decide) rfl
            refine lv_iinc (v := nI (i + 1)) (lv' := [(10, .int (nI (i + 1))), (8, .long ((sf ||| sl) &&& (r_2 ^^^ (-1)))), (6, .long r_6), (4, .long cm), (2, .long r_2), (0, .ref (h 0)), (1, .ref (g 0))]) hx hb d_X_gather_131 hl (k := 0) rfl (nI_1 i) (by decide) rfl (fun ls hl => ?_)
            refine lv_goto (tgt := 75) hx hb d_X_gather_134 (by decide) ?_
            have wn : i < n ∧ sx_isD α a true i = true := by have z := c_21; rw [hrp i (by omega)] at z; simpa using z
            have wc : sx_cm n α a i = true := by rw [sx_cmI, decide_eq_true wn.1, wn.2, decide_eq_true (show 0 < i by omega)]; rfl
            have w0 : α 10 (60 * a + i) = 0 := by have z := c_18; rw [hcm i (by omega), wc] at z; simpa using z
            exact ih_75 (i + 1, v, f &&& (sx_on i ^^^ (-1)), l1 &&& (sx_on i ^^^ (-1))) (⟨by omega, by omega, by have z := sx_RW_away hJ (show i < 60 by omega); rw [← sx_lead0 w0, sx_srow_t wc] at z; exact z⟩) (by omega) ls _ _ (lv_sub hl [0, 1, 2, 3, 4, 5, 6] rfl) hP hD hS
        · have c_18 : (sx_bt cm i) = true := sx_bIn c_18
          refine lv_aload_n hx hb d_X_gather_92 rfl (lv_at hl 5 rfl) ?_
          refine va_get (D := D) (ci := 3) (v := .ref (h 6)) (C := R_X) (T := T_X) (N := 6) hx hb hts iw_X hown hK.1 hP 0 rfl rfl 2 (by decide) (hts _ wd_71) (fun _ h9 => h9) rfl d_X_gather_93 ?_
          refine lv_iload hx hb d_X_gather_96 (lv_at hl 0 rfl) ?_
          refine lv_aload_n hx hb d_X_gather_98 rfl (lv_at hl 6 rfl) ?_
          refine va_getN (D := D) (ci := 0) (v := .ref (g 3)) (C := R_A) (T := T_A) (N := 12) hx hb hts iw_A hown hK.1 hP 9 rfl rfl 3 (by decide) (va_Nw.use rfl (hK.2.1 _ wd_166)) (fun _ h9 => h9) rfl d_X_gather_99 ?_
          refine lv_iload hx hb d_X_gather_102 (lv_at hl 0 rfl) ?_
          have hPc : va_P D vwCl (wS cA (g 3) (g 4) wv wf wl) H := hP.sub [12, 13] rfl
          refine vp_callSi (va_runV (As := [.int (nI i)]) (rest := [.int (nI i), .ref (h 6)]) ⟨hx, hb, hml, hown, hts⟩ (k_leads l D cA (g 3) (g 4) wv wf wl (nI i)) (cwV 1 hts (sx_GV wd_143 wd_144 wd_145 wd_4 wd_146) rfl rfl rfl (by decide +kernel) ⟨Nat.le_of_ble_eq_true rfl, Nat.le_of_ble_eq_true rfl⟩) (sx_preV hK hPc (va_recv hK.1 hPc (ci := 2) (q0 := 0) rfl rfl)) rfl rfl hl.1 rfl (lv_room (Nat.le_of_ble_eq_true rfl)) d_X_gather_104 ⟨Nat.le_of_ble_eq_true rfl, Nat.le_of_ble_eq_true rfl⟩).run (fun r_26 hr_25 => ?_)
          rw [sx_lead_eq hI ha (show i < 60 by omega) hW0] at hr_25
          subst hr_25
          have hPc : va_P D vwCl (wS cA (h 6) (h 7) v f l1) H := hP.sub [6, 7] rfl
          have hDc : va_D A (wS cA (h 6) (h 7) v f l1) := hD.sub [6, 7] (by decide) rfl
          refine sx_callv (wr := [(h 0, .inr (3, [.int lim, .ref (h 1), .ref (h 6), .ref (h 8), .int ac, .int sn])), (h 1, .inr (1, [.ref (h 2), .ref (h 3), .ref (h 4), .ref (h 5), .int (nI n)])), (h 2, .inl (cA 0, 60, .inl (α 1))), (h 3, .inl (cA 2, 60, .inl (α 2))), (h 4, .inl (cA 3, 60, .inr (.inl ab))), (h 5, .inl (cA 3, 60, .inr (.inl un))), (h 8, .inl (cA 4, 10, .inr (.inr (.inr (.inr acts))))), (g 0, .inr (0, [.ref (g 1), .ref (g 2), .int (nI (sx_dN α a)), .ref (g 3), .int th, .int hw, .int br, .int ops, .int rf, .ref (g 5), .int tc, .long ts])), (g 1, .inl (cA 0, 12, .inl dp)), (g 2, .inl (cA 1, 12, .inl out)), (g 3, .inr (2, [.ref (g 4), .long wf, .long wl])), (g 4, .inl (cA 0, 60, .inl wv)), (g 5, .inl (cA 0, 60, .inl tp))]) (va_runV (As := [.int (nI i), .int (sx_lead α a i)]) (rest := []) ⟨hx, hb, hml, hown, hts⟩ (k_put l D cA H.size (h 6) (h 7) v f l1 i (by omega) (sx_lead α a i)) (cwV 2 hts (sx_GV wd_131 wd_132 wd_133 wd_4 wd_134) rfl rfl rfl (by decide +kernel) ⟨Nat.le_of_ble_eq_true rfl, Nat.le_of_ble_eq_true rfl⟩) (sx_preVw hK hPc hDc (va_recv hK.1 hPc (ci := 2) (q0 := 0) rfl rfl)) rfl rfl hl.1 rfl (lv_room (Nat.le_of_ble_eq_true rfl)) d_X_gather_107 ⟨Nat.le_of_ble_eq_true rfl, Nat.le_of_ble_eq_true rfl⟩) hP hD hS hA [6, 7] [0, 1, 2, 3, 4, 5, 8, 9, 10, 11, 12, 13, 14] rfl rfl (by decide) (by decide) (fun u_29 H locs hr_27 hP hD hS => ?_)
          have hP : va_P D vwCl (wXA cA h g lim ac sn (nI n) (α 1) (α 2) ab un (upd v i (sx_lead α a i)) ((f &&& (sx_on i ^^^ (-1))) ||| sx_on i) (l1 &&& (sx_on i ^^^ (-1))) acts dp out (nI (sx_dN α a)) th hw br ops rf tp tc ts wv wf wl) H := hP.sub [0, 1, 2, 3, 4, 5, 13, 14, 6, 7, 8, 9, 10, 11, 12] rfl
          have hD : va_D A (wXA cA h g lim ac sn (nI n) (α 1) (α 2) ab un (upd v i (sx_lead α a i)) ((f &&& (sx_on i ^^^ (-1))) ||| sx_on i) (l1 &&& (sx_on i ^^^ (-1))) acts dp out (nI (sx_dN α a)) th hw br ops rf tp tc ts wv wf wl) := hD.sub [0, 1, 2, 3, 4, 5, 13, 14, 6, 7, 8, 9, 10, 11, 12] (by decide) rfl
          refine lv_goto (tgt := 131) hx hb d_X_gather_110 (by decide) ?_
          refine lv_iinc (v := nI (i + 1)) (lv' := [(10, .int (nI (i + 1))), (8, .long ((sf ||| sl) &&& (r_2 ^^^ (-1)))), (6, .long r_6), (4, .long cm), (2, .long r_2), (0, .ref (h 0)), (1, .ref (g 0))]) hx hb d_X_gather_131 hl (k := 0) rfl (nI_1 i) (by decide) rfl (fun ls hl => ?_)
          refine lv_goto (tgt := 75) hx hb d_X_gather_134 (by decide) ?_
          have w89 : sx_cm n α a i = true ∧ ¬ α 10 (60 * a + i) = 0 := by rw [hcm i (by omega)] at c_18; simpa using c_18
          have wn : i < n ∧ sx_isD α a true i = true := by have z := w89.1; rw [sx_cmI] at z; simp only [Bool.and_eq_true, decide_eq_true_eq] at z; exact ⟨z.1.2, z.2⟩
          exact ih_75 (i + 1, upd v i (sx_lead α a i), (f &&& (sx_on i ^^^ (-1))) ||| sx_on i, l1 &&& (sx_on i ^^^ (-1))) (⟨by omega, by omega, by have z := sx_RW_put hJ (show i < 60 by omega) (sx_lead_pos hI ha hf wn.1 wn.2 w89.2); rw [sx_srow_t w89.1] at z; exact z⟩) (by omega) ls _ _ (lv_sub hl [0, 1, 2, 3, 4, 5, 6] rfl) hP hD hS
    · have w66 := sx_nf (fun z => c_12 (sx_cmp0.mpr ((sx_way_eq hI hca hrp hS0).mpr z)))
      refine lv_bipush (v := (-4)) hx hb d_X_gather_69 (by decide +kernel) ?_
      have hP9 : va_P D vwCl (wXA cA h g lim ac sn (nI n) (α 1) (α 2) ab un (sv) (sf) (sl) acts dp out (nI (sx_dN α a)) th hw br ops rf tp tc ts wv wf wl) s.heap := hP
      have hD9 : va_D A (wXA cA h g lim ac sn (nI n) (α 1) (α 2) ab un (sv) (sf) (sl) acts dp out (nI (sx_dN α a)) th hw br ops rf tp tc ts wv wf wl) := hD
      exact W.iret (v := (-4)) hx hb hr (fun t ht hW => ⟨⟨(-4), (sv, sf, sl), rfl, ⟨by rw [w38, w66]; rfl, by rw [w38, w66]; exact hS0⟩, by rw [ht]; exact hP9, by rw [hAe]; exact hD9⟩, hS.F ht⟩) hS.2.2 d_X_gather_71
  · have w38 : sx_cl n α a = true := by have z := sx_bIn c_9; unfold sx_clF at z; rw [sx_clash hI (fun k hk => hca k (by omega))] at z; exact z
    refine lv_bipush (v := (-3)) hx hb d_X_gather_41 (by decide +kernel) ?_
    have hP9 : va_P D vwCl (wXA cA h g lim ac sn (nI n) (α 1) (α 2) ab un (sv) (sf) (sl) acts dp out (nI (sx_dN α a)) th hw br ops rf tp tc ts wv wf wl) s.heap := hP
    have hD9 : va_D A (wXA cA h g lim ac sn (nI n) (α 1) (α 2) ab un (sv) (sf) (sl) acts dp out (nI (sx_dN α a)) th hw br ops rf tp tc ts wv wf wl) := hD
    exact W.iret (v := (-3)) hx hb hr (fun t ht hW => ⟨⟨(-3), (sv, sf, sl), rfl, ⟨by rw [w38]; rfl, by rw [w38]; exact hS0⟩, by rw [ht]; exact hP9, by rw [hAe]; exact hD9⟩, hS.F ht⟩) hS.2.2 d_X_gather_43
end
section
set_option maxHeartbeats 4000000 in
set_option maxRecDepth 100000 in
theorem k_open (l : Launch) (D : va_G) (cA : Nat → ClassId) (sz : Nat) (h g : Nat → Nat) (n na L : Nat) (sb : Bool) (α : sx_A) (ab un : Nat → Int64) (sv : Nat → Int32) (sf sl : Int64) (acts : Nat → Option Nat) (a : Nat) (K : sx_KA) (hI : sx_INV n na L α) (ha : a < na) (hR : sx_RP n (α 1) ab un) (hS0 : sx_RW (α 3) sv sf sl) (hRA : sx_RA α a K) (hacts : acts a = some (g 0)) (p : Int32) : Met l y_X_open w_X_open ({ frames := 3, cells := 0, slots := 0, locals := 65 }) (sx_Pw D cA [.ref (h 0), .int (nI a), .int p] (wXAk cA h g (nI L) (nI na) (sx_bI sb) (nI n) (α 1) (α 2) ab un sv sf sl acts K) sz) (va_Qi (fun r (u : sx_KA) => r = sx_openA n L α a p ∧ sx_RA (sx_openS n L α a p) a u) (sx_Bw D (wXAk cA h g (nI L) (nI na) (sx_bI sb) (nI n) (α 1) (α 2) ab un sv sf sl acts K) sz (fun u => wXAk cA h g (nI L) (nI na) (sx_bI sb) (nI n) (α 1) (α 2) ab un sv sf sl acts u)) (va_A (wXAk cA h g (nI L) (nI na) (sx_bI sb) (nI n) (α 1) (α 2) ab un sv sf sl acts K) sz)) 0 0 (va_A (wXAk cA h g (nI L) (nI na) (sx_bI sb) (nI n) (α 1) (α 2) ab un sv sf sl acts K) sz) := by
  refine Met.ofW (cc := b_X_open) (maxL := 5) (ret := (some .int)) (by decide) rfl ?_
  intro pG eG s m args below meth cG s₁ B hml hv
  obtain ⟨rfl, hsz, hP, hK, hD0⟩ := hv
  have hx := B.exec
  have hb := B.bytes
  have hr := B.returns
  have hts0 := atoms_spec (ws := w_X_open) B.pre
  have hts : ∀ w ∈ sx_gw, w.before _ s = true := fun w h => hts0 w (List.mem_cons_of_mem _ h)
  have hown : s.vm.findClass R_X = some m.cls := findClass_of_methodNamed B.named
  have hlocks := B.notSynchronized
  subst hsz
  have hD := hD0.self (sz := s.heap.size)
  generalize hAe : va_A (wXAk cA h g (nI L) (nI na) (sx_bI sb) (nI n) (α 1) (α 2) ab un sv sf sl acts K) s.heap.size = A at hD ⊢
  have hA : ∀ q : Nat, s.heap.size ≤ q → A q := fun q h => by rw [← hAe]; exact Or.inr h
  have hS : va_S A s.heap s.heap [] := va_S.rf
  have hl := lv_entry ([.ref (h 0), .int (nI a), .int p]) (n := 5) (Nat.le_of_ble_eq_true rfl)
  rw [lg_entry_eq]
  generalize (lg_sl ([.ref (h 0), .int (nI a), .int p]) ++ List.replicate (5 - (lg_sl ([.ref (h 0), .int (nI a), .int p])).length) Slot.unset).toArray = ls at hl ⊢
  have hl : lv_has ls 5 [(0, .ref (h 0)), (1, .int (nI a)), (2, .int p)] := hl
  have hn31 := sx_INV_n hI
  have hn60 := hI.1.1.2
  have h1n := hI.1.1.1
  have hAc := sx_INV_A hI ha
  have hd12 := (sx_dN_ok hAc).1
  have hna := hI.1.2.1
  have hL5 := hI.1.2.2.2
  obtain ⟨hDO, htp, htsb, hW0, f4, f12, f14, f13, f6, f7, f8⟩ := id hRA
  have e4 : nI (sx_dN α a) = α 4 a := (sx_dN_ok hAc).2.symm
  have e12 : sx_bI (sx_fb α 12 a) = α 12 a := sx_fb_ok hAc.2.2.2.2.2.1
  have e13 : sx_bI (sx_fb α 13 a) = α 13 a := sx_fb_ok hAc.2.2.2.2.2.2.1
  have e14 : sx_bI (sx_fb α 14 a) = α 14 a := sx_fb_ok hAc.2.2.2.2.2.2.2
  have e6 : nI (sx_oN α a) = α 6 a := (sx_oN_ok hAc hL5).2
  have oL := (sx_oN_ok hAc hL5).1
  have e8 : nI (sx_tN α a) = α 8 a := (sx_tN_ok hAc).2.symm
  have t60 := (sx_tN_ok hAc).1
  rw [sx_XA_eq hAc hL5 hRA] at hP hD
  refine lv_aload_n hx hb d_X_open_0 rfl (lv_at hl 0 rfl) ?_
  refine lv_iload_n hx hb d_X_open_1 rfl (lv_at hl 1 rfl) ?_
  rcases Bool.eq_false_or_eq_true (sx_fb α 12 a) with hth | hth
  · refine va_csq (va_runV (As := [.int (nI a)]) (rest := []) ⟨hx, hb, hml, hown, hts⟩ (k_run l D cA h g (nI L) na (sx_bI sb) (nI n) (α 1) (α 2) ab un sv sf sl acts (K.1 0) (K.1 1) (nI (sx_dN α a)) (sx_fb α 12 a) (sx_bI (sx_fb α 14 a)) (sx_bI (sx_fb α 13 a)) (nI (sx_oN α a)) (α 7 a) (K.1 2) (nI (sx_tN α a)) (K.2 0) (K.1 3) (K.2 1) (K.2 2) a (by omega) (by omega) hacts hth) (cwV 1 hts (sx_GV wd_266 wd_268 ws_4 wd_1 wd_269) rfl rfl rfl (by decide +kernel) ⟨Nat.le_of_ble_eq_true rfl, Nat.le_of_ble_eq_true rfl⟩) (sx_preV hK hP (va_recv hK.1 hP (ci := 3) (q0 := 0) rfl rfl)) rfl rfl hl.1 rfl (lv_room (Nat.le_of_ble_eq_true rfl)) d_X_open_2 ⟨Nat.le_of_ble_eq_true rfl, Nat.le_of_ble_eq_true rfl⟩).run (fun r_2 hr_1 => ?_)
    subst hr_1
    refine sx_asv (y := .ref (g 0)) rfl ?_
    refine lv_astore_n (lv' := [(3, .ref (g 0)), (0, .ref (h 0)), (1, .int (nI a)), (2, .int p)]) hx hb d_X_open_5 rfl hl (by decide) rfl (fun ls hl => ?_)
    refine lv_aload_n hx hb d_X_open_6 rfl (lv_at hl 0 rfl) ?_
    refine lv_ifnull hx hb d_X_open_7 ?_
    refine lv_aload_n hx hb d_X_open_10 rfl (lv_at hl 1 rfl) ?_
    refine va_get (D := D) (ci := 3) (v := .ref (h 1)) (C := R_X) (T := T_X) (N := 6) hx hb hts iw_X hown hK.1 hP 0 rfl rfl 1 (by decide) (hts _ wd_70) (fun _ h9 => h9) rfl d_X_open_11 ?_
    refine lv_iload_n hx hb d_X_open_14 rfl (lv_at hl 3 rfl) ?_
    have hPc : va_P D vwCl (wP cA (h 1) (h 2) (h 3) (h 4) (h 5) (nI n) (α 1) (α 2) ab un) s.heap := hP.sub [1, 2, 3, 4, 5] rfl
    refine vp_callSi (va_runV (As := [.int p]) (rest := []) ⟨hx, hb, hml, hown, hts⟩ (k_has l D cA (h 1) (h 2) (h 3) (h 4) (h 5) n (α 1) (α 2) ab un p) (cwV 1 hts (sx_GV wd_92 wd_93 wd_94 wd_3 wd_95) rfl rfl rfl (by decide +kernel) ⟨Nat.le_of_ble_eq_true rfl, Nat.le_of_ble_eq_true rfl⟩) (sx_preV hK hPc (va_recv hK.1 hPc (ci := 1) (q0 := 0) rfl rfl)) rfl rfl hl.1 rfl (lv_room (Nat.le_of_ble_eq_true rfl)) d_X_open_15 ⟨Nat.le_of_ble_eq_true rfl, Nat.le_of_ble_eq_true rfl⟩).run (fun r_4 hr_3 => ?_)
    subst hr_3
    refine lv_if_ne (tgt := 23) hx hb d_X_open_18 (by decide) (fun c_5 => ?_) (fun c_5 => ?_)
    · have c_5 : (sx_has n p) = true := sx_bIn c_5
      obtain ⟨j, hj, rfl⟩ := sx_has_t (by omega) c_5
      refine lv_aload_n hx hb d_X_open_23 rfl (lv_at hl 0 rfl) ?_
      refine lv_aload_n hx hb d_X_open_24 rfl (lv_at hl 1 rfl) ?_
      refine va_get (D := D) (ci := 3) (v := .int (nI L)) (C := R_X) (T := T_X) (N := 6) hx hb hts iw_X hown hK.1 hP 0 rfl rfl 0 (by decide) (hts _ wd_69) (fun _ h9 => h9) rfl d_X_open_25 ?_
      rcases Nat.lt_or_ge (sx_oN α a) L with hoL | hoL
      · have hne : ¬ α 6 a = nI L := fun z => by rw [← e6] at z; have := (nI_eq (by omega) (by omega)).mp z; omega
        have hPc : va_P D vwCl (wA cA (g 0) (g 1) (g 2) (g 3) (g 4) (g 5) (K.1 0) (K.1 1) (nI (sx_dN α a)) (sx_bI (sx_fb α 12 a)) (sx_bI (sx_fb α 14 a)) (sx_bI (sx_fb α 13 a)) (nI (sx_oN α a)) (α 7 a) (K.1 2) (nI (sx_tN α a)) (K.2 0) (K.1 3) (K.2 1) (K.2 2)) s.heap := hP.sub [9, 10, 11, 12, 13, 14] rfl
        have hDc : va_D A (wA cA (g 0) (g 1) (g 2) (g 3) (g 4) (g 5) (K.1 0) (K.1 1) (nI (sx_dN α a)) (sx_bI (sx_fb α 12 a)) (sx_bI (sx_fb α 14 a)) (sx_bI (sx_fb α 13 a)) (nI (sx_oN α a)) (α 7 a) (K.1 2) (nI (sx_tN α a)) (K.2 0) (K.1 3) (K.2 1) (K.2 2)) := hD.sub [9, 10, 11, 12, 13, 14] (by decide) rfl
        refine sx_calli (wr := [(h 0, .inr (3, [.int (nI L), .ref (h 1), .ref (h 6), .ref (h 8), .int (nI na), .int (sx_bI sb)])), (h 1, .inr (1, [.ref (h 2), .ref (h 3), .ref (h 4), .ref (h 5), .int (nI n)])), (h 2, .inl (cA 0, 60, .inl (α 1))), (h 3, .inl (cA 2, 60, .inl (α 2))), (h 4, .inl (cA 3, 60, .inr (.inl ab))), (h 5, .inl (cA 3, 60, .inr (.inl un))), (h 6, .inr (2, [.ref (h 7), .long sf, .long sl])), (h 7, .inl (cA 0, 60, .inl sv)), (h 8, .inl (cA 4, 10, .inr (.inr (.inr (.inr acts)))))]) (va_runV (As := [.int (nI L)]) (rest := []) ⟨hx, hb, hml, hown, hts⟩ (k_op l D cA s.heap.size (g 0) (g 1) (g 2) (g 3) (g 4) (g 5) (K.1 0) (K.1 1) (nI (sx_dN α a)) (sx_bI (sx_fb α 12 a)) (sx_bI (sx_fb α 14 a)) (sx_bI (sx_fb α 13 a)) (sx_oN α a) (α 7 a) (K.1 2) (nI (sx_tN α a)) (K.2 0) (K.1 3) (K.2 1) (K.2 2) L (by omega) (by omega)) (cwV 1 hts (sx_GV wd_270 wd_271 wd_272 wd_6 wd_273) rfl rfl rfl (by decide +kernel) ⟨Nat.le_of_ble_eq_true rfl, Nat.le_of_ble_eq_true rfl⟩) (sx_preVw hK hPc hDc (va_recv hK.1 hPc (ci := 0) (q0 := 0) rfl rfl)) rfl rfl hl.1 rfl (lv_room (Nat.le_of_ble_eq_true rfl)) d_X_open_28 ⟨Nat.le_of_ble_eq_true rfl, Nat.le_of_ble_eq_true rfl⟩) hP hD hS hA [9, 10, 11, 12, 13, 14] [0, 1, 2, 3, 4, 5, 6, 7, 8] rfl rfl (by decide) (by decide) (fun r_7 u_8 H locs hr_6 hP hD hS => ?_)
        have hP : va_P D vwCl (wXA cA h g (nI L) (nI na) (sx_bI sb) (nI n) (α 1) (α 2) ab un sv sf sl acts (K.1 0) (K.1 1) (nI (sx_dN α a)) (sx_bI (sx_fb α 12 a)) (sx_bI (sx_fb α 14 a)) (sx_bI (sx_fb α 13 a)) (nI (sx_oN α a + 1)) (α 7 a) (K.1 2) (nI (sx_tN α a)) (K.2 0) (K.1 3) (K.2 1) (K.2 2)) H := hP.sub [0, 1, 2, 3, 4, 5, 6, 7, 8, 9, 10, 11, 12, 13, 14] rfl
        have hD : va_D A (wXA cA h g (nI L) (nI na) (sx_bI sb) (nI n) (α 1) (α 2) ab un sv sf sl acts (K.1 0) (K.1 1) (nI (sx_dN α a)) (sx_bI (sx_fb α 12 a)) (sx_bI (sx_fb α 14 a)) (sx_bI (sx_fb α 13 a)) (nI (sx_oN α a + 1)) (α 7 a) (K.1 2) (nI (sx_tN α a)) (K.2 0) (K.1 3) (K.2 1) (K.2 2)) := hD.sub [0, 1, 2, 3, 4, 5, 6, 7, 8, 9, 10, 11, 12, 13, 14] (by decide) rfl
        subst hr_6
        refine lv_if_ne (tgt := 37) hx hb d_X_open_31 (by decide) (fun c_9 => ?_) (fun c_9 => ?_)
        · refine lv_aload_n hx hb d_X_open_37 rfl (lv_at hl 0 rfl) ?_
          refine va_getN (D := D) (ci := 0) (v := .ref (g 3)) (C := R_A) (T := T_A) (N := 12) hx hb hts iw_A hown hK.1 hP 9 rfl rfl 3 (by decide) (va_Nw.use rfl (hK.2.1 _ wd_166)) (fun _ h9 => h9) rfl d_X_open_38 ?_
          refine lv_iload_n hx hb d_X_open_41 rfl (lv_at hl 3 rfl) ?_
          have hPc : va_P D vwCl (wS cA (g 3) (g 4) (K.1 3) (K.2 1) (K.2 2)) H := hP.sub [12, 13] rfl
          refine vp_callSi (va_runV (As := [.int (nI j)]) (rest := []) ⟨hx, hb, hml, hown, hts⟩ (k_leads l D cA (g 3) (g 4) (K.1 3) (K.2 1) (K.2 2) (nI j)) (cwV 1 hts (sx_GV wd_143 wd_144 wd_145 wd_4 wd_146) rfl rfl rfl (by decide +kernel) ⟨Nat.le_of_ble_eq_true rfl, Nat.le_of_ble_eq_true rfl⟩) (sx_preV hK hPc (va_recv hK.1 hPc (ci := 2) (q0 := 0) rfl rfl)) rfl rfl hl.1 rfl (lv_room (Nat.le_of_ble_eq_true rfl)) d_X_open_42 ⟨Nat.le_of_ble_eq_true rfl, Nat.le_of_ble_eq_true rfl⟩).run (fun r_11 hr_10 => ?_)
          rw [sx_lead_eq hI ha (show j < 60 by omega) hW0] at hr_10
          subst hr_10
          refine lv_istore (lv' := [(4, .int (sx_lead α a j)), (3, .ref (g 0)), (0, .ref (h 0)), (1, .int (nI a)), (2, .int (nI j))]) hx hb d_X_open_45 hl (by decide) rfl (fun ls hl => ?_)
          refine lv_iload hx hb d_X_open_47 (lv_at hl 0 rfl) ?_
          refine lv_if_ne (tgt := 57) hx hb d_X_open_49 (by decide) (fun c_12 => ?_) (fun c_12 => ?_)
          · refine lv_iload hx hb d_X_open_57 (lv_at hl 0 rfl) ?_
            have hP9 : va_P D vwCl (wXAk cA h g (nI L) (nI na) (sx_bI sb) (nI n) (α 1) (α 2) ab un sv sf sl acts (sx_kA (K.1 0) (K.1 1) (nI (sx_dN α a)) (sx_bI (sx_fb α 12 a)) (sx_bI (sx_fb α 14 a)) (sx_bI (sx_fb α 13 a)) (nI (sx_oN α a + 1)) (α 7 a) (K.1 2) (nI (sx_tN α a)) (K.2 0) (K.1 3) (K.2 1) (K.2 2))) H := hP
            have hD9 : va_D A (wXAk cA h g (nI L) (nI na) (sx_bI sb) (nI n) (α 1) (α 2) ab un sv sf sl acts (sx_kA (K.1 0) (K.1 1) (nI (sx_dN α a)) (sx_bI (sx_fb α 12 a)) (sx_bI (sx_fb α 14 a)) (sx_bI (sx_fb α 13 a)) (nI (sx_oN α a + 1)) (α 7 a) (K.1 2) (nI (sx_tN α a)) (K.2 0) (K.1 3) (K.2 1) (K.2 2))) := hD
            exact W.iret (v := sx_lead α a j) hx hb hr (fun t ht hW => ⟨⟨sx_lead α a j, (sx_kA (K.1 0) (K.1 1) (nI (sx_dN α a)) (sx_bI (sx_fb α 12 a)) (sx_bI (sx_fb α 14 a)) (sx_bI (sx_fb α 13 a)) (nI (sx_oN α a + 1)) (α 7 a) (K.1 2) (nI (sx_tN α a)) (K.2 0) (K.1 3) (K.2 1) (K.2 2)), rfl, (sx_fin2 (sx_open_old (by omega) (sx_ok_t hth (sx_has_nI (by omega) hj) (sx_has0 h1n hn60)) hne (Or.inl c_12)) rfl (sx_RA_of hDO htp htsb hW0 e4 e12 e14 e13 (sx_op1 e6) rfl e8)), by rw [ht]; exact hP9, by rw [hAe]; exact hD9⟩, hS.F ht⟩) hS.2.2 d_X_open_59
          · refine lv_aload_n hx hb d_X_open_52 rfl (lv_at hl 1 rfl) ?_
            refine lv_iload_n hx hb d_X_open_53 rfl (lv_at hl 4 rfl) ?_
            rcases Bool.eq_false_or_eq_true (sx_nt α a j) with hnt | hnt
            · have hb9 : sx_bt (K.2 0) j = true := by rw [htsb j (by omega)]; exact hnt
              have hPc : va_P D vwCl (wA cA (g 0) (g 1) (g 2) (g 3) (g 4) (g 5) (K.1 0) (K.1 1) (nI (sx_dN α a)) (sx_bI (sx_fb α 12 a)) (sx_bI (sx_fb α 14 a)) (sx_bI (sx_fb α 13 a)) (nI (sx_oN α a + 1)) (α 7 a) (K.1 2) (nI (sx_tN α a)) (K.2 0) (K.1 3) (K.2 1) (K.2 2)) H := hP.sub [9, 10, 11, 12, 13, 14] rfl
              have hDc : va_D A (wA cA (g 0) (g 1) (g 2) (g 3) (g 4) (g 5) (K.1 0) (K.1 1) (nI (sx_dN α a)) (sx_bI (sx_fb α 12 a)) (sx_bI (sx_fb α 14 a)) (sx_bI (sx_fb α 13 a)) (nI (sx_oN α a + 1)) (α 7 a) (K.1 2) (nI (sx_tN α a)) (K.2 0) (K.1 3) (K.2 1) (K.2 2)) := hD.sub [9, 10, 11, 12, 13, 14] (by decide) rfl
              refine sx_callv (wr := [(h 0, .inr (3, [.int (nI L), .ref (h 1), .ref (h 6), .ref (h 8), .int (nI na), .int (sx_bI sb)])), (h 1, .inr (1, [.ref (h 2), .ref (h 3), .ref (h 4), .ref (h 5), .int (nI n)])), (h 2, .inl (cA 0, 60, .inl (α 1))), (h 3, .inl (cA 2, 60, .inl (α 2))), (h 4, .inl (cA 3, 60, .inr (.inl ab))), (h 5, .inl (cA 3, 60, .inr (.inl un))), (h 6, .inr (2, [.ref (h 7), .long sf, .long sl])), (h 7, .inl (cA 0, 60, .inl sv)), (h 8, .inl (cA 4, 10, .inr (.inr (.inr (.inr acts)))))]) (va_runV (As := [.int (nI j)]) (rest := []) ⟨hx, hb, hml, hown, hts⟩ (k_noteN l D cA H.size (g 0) (g 1) (g 2) (g 3) (g 4) (g 5) (K.1 0) (K.1 1) (nI (sx_dN α a)) (sx_bI (sx_fb α 12 a)) (sx_bI (sx_fb α 14 a)) (sx_bI (sx_fb α 13 a)) (nI (sx_oN α a + 1)) (α 7 a) (K.1 2) (sx_tN α a) (K.2 0) (K.1 3) (K.2 1) (K.2 2) (by omega) j (by omega) hb9) (cwV 1 hts (sx_GV wd_274 wd_275 wd_276 wd_6 wd_277) rfl rfl rfl (by decide +kernel) ⟨Nat.le_of_ble_eq_true rfl, Nat.le_of_ble_eq_true rfl⟩) (sx_preVw hK hPc hDc (va_recv hK.1 hPc (ci := 0) (q0 := 0) rfl rfl)) rfl rfl hl.1 rfl (lv_room (Nat.le_of_ble_eq_true rfl)) d_X_open_54 ⟨Nat.le_of_ble_eq_true rfl, Nat.le_of_ble_eq_true rfl⟩) hP hD hS hA [9, 10, 11, 12, 13, 14] [0, 1, 2, 3, 4, 5, 6, 7, 8] rfl rfl (by decide) (by decide) (fun u_15 H locs hr_13 hP hD hS => ?_)
              have hP : va_P D vwCl (wXA cA h g (nI L) (nI na) (sx_bI sb) (nI n) (α 1) (α 2) ab un sv sf sl acts (K.1 0) (K.1 1) (nI (sx_dN α a)) (sx_bI (sx_fb α 12 a)) (sx_bI (sx_fb α 14 a)) (sx_bI (sx_fb α 13 a)) (nI (sx_oN α a + 1)) (α 7 a) (K.1 2) (nI (sx_tN α a)) (K.2 0) (K.1 3) (K.2 1) (K.2 2)) H := hP.sub [0, 1, 2, 3, 4, 5, 6, 7, 8, 9, 10, 11, 12, 13, 14] rfl
              have hD : va_D A (wXA cA h g (nI L) (nI na) (sx_bI sb) (nI n) (α 1) (α 2) ab un sv sf sl acts (K.1 0) (K.1 1) (nI (sx_dN α a)) (sx_bI (sx_fb α 12 a)) (sx_bI (sx_fb α 14 a)) (sx_bI (sx_fb α 13 a)) (nI (sx_oN α a + 1)) (α 7 a) (K.1 2) (nI (sx_tN α a)) (K.2 0) (K.1 3) (K.2 1) (K.2 2)) := hD.sub [0, 1, 2, 3, 4, 5, 6, 7, 8, 9, 10, 11, 12, 13, 14] (by decide) rfl
              refine lv_iload hx hb d_X_open_57 (lv_at hl 0 rfl) ?_
              have hP9 : va_P D vwCl (wXAk cA h g (nI L) (nI na) (sx_bI sb) (nI n) (α 1) (α 2) ab un sv sf sl acts (sx_kA (K.1 0) (K.1 1) (nI (sx_dN α a)) (sx_bI (sx_fb α 12 a)) (sx_bI (sx_fb α 14 a)) (sx_bI (sx_fb α 13 a)) (nI (sx_oN α a + 1)) (α 7 a) (K.1 2) (nI (sx_tN α a)) (K.2 0) (K.1 3) (K.2 1) (K.2 2))) H := hP
              have hD9 : va_D A (wXAk cA h g (nI L) (nI na) (sx_bI sb) (nI n) (α 1) (α 2) ab un sv sf sl acts (sx_kA (K.1 0) (K.1 1) (nI (sx_dN α a)) (sx_bI (sx_fb α 12 a)) (sx_bI (sx_fb α 14 a)) (sx_bI (sx_fb α 13 a)) (nI (sx_oN α a + 1)) (α 7 a) (K.1 2) (nI (sx_tN α a)) (K.2 0) (K.1 3) (K.2 1) (K.2 2))) := hD
              exact W.iret (v := sx_lead α a j) hx hb hr (fun t ht hW => ⟨⟨sx_lead α a j, (sx_kA (K.1 0) (K.1 1) (nI (sx_dN α a)) (sx_bI (sx_fb α 12 a)) (sx_bI (sx_fb α 14 a)) (sx_bI (sx_fb α 13 a)) (nI (sx_oN α a + 1)) (α 7 a) (K.1 2) (nI (sx_tN α a)) (K.2 0) (K.1 3) (K.2 1) (K.2 2)), rfl, (sx_fin2 (sx_open_old (by omega) (sx_ok_t hth (sx_has_nI (by omega) hj) (sx_has0 h1n hn60)) hne (Or.inr hnt)) rfl (sx_RA_of hDO htp htsb hW0 e4 e12 e14 e13 (sx_op1 e6) rfl e8)), by rw [ht]; exact hP9, by rw [hAe]; exact hD9⟩, hS.F ht⟩) hS.2.2 d_X_open_59
            · have hb9 : sx_bt (K.2 0) j = false := by rw [htsb j (by omega)]; exact hnt
              have ht9 := sx_room hn60 hAc hj hnt
              have hPc : va_P D vwCl (wA cA (g 0) (g 1) (g 2) (g 3) (g 4) (g 5) (K.1 0) (K.1 1) (nI (sx_dN α a)) (sx_bI (sx_fb α 12 a)) (sx_bI (sx_fb α 14 a)) (sx_bI (sx_fb α 13 a)) (nI (sx_oN α a + 1)) (α 7 a) (K.1 2) (nI (sx_tN α a)) (K.2 0) (K.1 3) (K.2 1) (K.2 2)) H := hP.sub [9, 10, 11, 12, 13, 14] rfl
              have hDc : va_D A (wA cA (g 0) (g 1) (g 2) (g 3) (g 4) (g 5) (K.1 0) (K.1 1) (nI (sx_dN α a)) (sx_bI (sx_fb α 12 a)) (sx_bI (sx_fb α 14 a)) (sx_bI (sx_fb α 13 a)) (nI (sx_oN α a + 1)) (α 7 a) (K.1 2) (nI (sx_tN α a)) (K.2 0) (K.1 3) (K.2 1) (K.2 2)) := hD.sub [9, 10, 11, 12, 13, 14] (by decide) rfl
              refine sx_callv (wr := [(h 0, .inr (3, [.int (nI L), .ref (h 1), .ref (h 6), .ref (h 8), .int (nI na), .int (sx_bI sb)])), (h 1, .inr (1, [.ref (h 2), .ref (h 3), .ref (h 4), .ref (h 5), .int (nI n)])), (h 2, .inl (cA 0, 60, .inl (α 1))), (h 3, .inl (cA 2, 60, .inl (α 2))), (h 4, .inl (cA 3, 60, .inr (.inl ab))), (h 5, .inl (cA 3, 60, .inr (.inl un))), (h 6, .inr (2, [.ref (h 7), .long sf, .long sl])), (h 7, .inl (cA 0, 60, .inl sv)), (h 8, .inl (cA 4, 10, .inr (.inr (.inr (.inr acts)))))]) (va_runV (As := [.int (nI j)]) (rest := []) ⟨hx, hb, hml, hown, hts⟩ (k_note l D cA H.size (g 0) (g 1) (g 2) (g 3) (g 4) (g 5) (K.1 0) (K.1 1) (nI (sx_dN α a)) (sx_bI (sx_fb α 12 a)) (sx_bI (sx_fb α 14 a)) (sx_bI (sx_fb α 13 a)) (nI (sx_oN α a + 1)) (α 7 a) (K.1 2) (sx_tN α a) (K.2 0) (K.1 3) (K.2 1) (K.2 2) (by omega) j (by omega) hb9) (cwV 1 hts (sx_GV wd_274 wd_275 wd_276 wd_6 wd_277) rfl rfl rfl (by decide +kernel) ⟨Nat.le_of_ble_eq_true rfl, Nat.le_of_ble_eq_true rfl⟩) (sx_preVw hK hPc hDc (va_recv hK.1 hPc (ci := 0) (q0 := 0) rfl rfl)) rfl rfl hl.1 rfl (lv_room (Nat.le_of_ble_eq_true rfl)) d_X_open_54 ⟨Nat.le_of_ble_eq_true rfl, Nat.le_of_ble_eq_true rfl⟩) hP hD hS hA [9, 10, 11, 12, 13, 14] [0, 1, 2, 3, 4, 5, 6, 7, 8] rfl rfl (by decide) (by decide) (fun u_18 H locs hr_16 hP hD hS => ?_)
              have hP : va_P D vwCl (wXA cA h g (nI L) (nI na) (sx_bI sb) (nI n) (α 1) (α 2) ab un sv sf sl acts (K.1 0) (K.1 1) (nI (sx_dN α a)) (sx_bI (sx_fb α 12 a)) (sx_bI (sx_fb α 14 a)) (sx_bI (sx_fb α 13 a)) (nI (sx_oN α a + 1)) (α 7 a) (upd (K.1 2) (sx_tN α a) (nI j)) (nI (sx_tN α a + 1)) ((K.2 0) ||| sx_on j) (K.1 3) (K.2 1) (K.2 2)) H := hP.sub [0, 1, 2, 3, 4, 5, 6, 7, 8, 9, 10, 11, 12, 13, 14] rfl
              have hD : va_D A (wXA cA h g (nI L) (nI na) (sx_bI sb) (nI n) (α 1) (α 2) ab un sv sf sl acts (K.1 0) (K.1 1) (nI (sx_dN α a)) (sx_bI (sx_fb α 12 a)) (sx_bI (sx_fb α 14 a)) (sx_bI (sx_fb α 13 a)) (nI (sx_oN α a + 1)) (α 7 a) (upd (K.1 2) (sx_tN α a) (nI j)) (nI (sx_tN α a + 1)) ((K.2 0) ||| sx_on j) (K.1 3) (K.2 1) (K.2 2)) := hD.sub [0, 1, 2, 3, 4, 5, 6, 7, 8, 9, 10, 11, 12, 13, 14] (by decide) rfl
              refine lv_iload hx hb d_X_open_57 (lv_at hl 0 rfl) ?_
              have hP9 : va_P D vwCl (wXAk cA h g (nI L) (nI na) (sx_bI sb) (nI n) (α 1) (α 2) ab un sv sf sl acts (sx_kA (K.1 0) (K.1 1) (nI (sx_dN α a)) (sx_bI (sx_fb α 12 a)) (sx_bI (sx_fb α 14 a)) (sx_bI (sx_fb α 13 a)) (nI (sx_oN α a + 1)) (α 7 a) (upd (K.1 2) (sx_tN α a) (nI j)) (nI (sx_tN α a + 1)) ((K.2 0) ||| sx_on j) (K.1 3) (K.2 1) (K.2 2))) H := hP
              have hD9 : va_D A (wXAk cA h g (nI L) (nI na) (sx_bI sb) (nI n) (α 1) (α 2) ab un sv sf sl acts (sx_kA (K.1 0) (K.1 1) (nI (sx_dN α a)) (sx_bI (sx_fb α 12 a)) (sx_bI (sx_fb α 14 a)) (sx_bI (sx_fb α 13 a)) (nI (sx_oN α a + 1)) (α 7 a) (upd (K.1 2) (sx_tN α a) (nI j)) (nI (sx_tN α a + 1)) ((K.2 0) ||| sx_on j) (K.1 3) (K.2 1) (K.2 2))) := hD
              exact W.iret (v := sx_lead α a j) hx hb hr (fun t ht hW => ⟨⟨sx_lead α a j, (sx_kA (K.1 0) (K.1 1) (nI (sx_dN α a)) (sx_bI (sx_fb α 12 a)) (sx_bI (sx_fb α 14 a)) (sx_bI (sx_fb α 13 a)) (nI (sx_oN α a + 1)) (α 7 a) (upd (K.1 2) (sx_tN α a) (nI j)) (nI (sx_tN α a + 1)) ((K.2 0) ||| sx_on j) (K.1 3) (K.2 1) (K.2 2)), rfl, (sx_fin2 (sx_open_new (by omega) (sx_ok_t hth (sx_has_nI (by omega) hj) (sx_has0 h1n hn60)) hne c_12 hnt) rfl (sx_RA_of hDO (sx_note_tp htp) (sx_note_ts (by omega) e8 (by omega) htsb) hW0 e4 e12 e14 e13 (sx_op1 e6) rfl (by rw [sx_at, ← e8, nI_1]))), by rw [ht]; exact hP9, by rw [hAe]; exact hD9⟩, hS.F ht⟩) hS.2.2 d_X_open_59
        · exact absurd c_9 (by decide)
      · have hoE : sx_oN α a = L := by omega
        have heq : α 6 a = nI L := by rw [← e6, hoE]
        have hPc : va_P D vwCl (wA cA (g 0) (g 1) (g 2) (g 3) (g 4) (g 5) (K.1 0) (K.1 1) (nI (sx_dN α a)) (sx_bI (sx_fb α 12 a)) (sx_bI (sx_fb α 14 a)) (sx_bI (sx_fb α 13 a)) (nI (sx_oN α a)) (α 7 a) (K.1 2) (nI (sx_tN α a)) (K.2 0) (K.1 3) (K.2 1) (K.2 2)) s.heap := hP.sub [9, 10, 11, 12, 13, 14] rfl
        have hDc : va_D A (wA cA (g 0) (g 1) (g 2) (g 3) (g 4) (g 5) (K.1 0) (K.1 1) (nI (sx_dN α a)) (sx_bI (sx_fb α 12 a)) (sx_bI (sx_fb α 14 a)) (sx_bI (sx_fb α 13 a)) (nI (sx_oN α a)) (α 7 a) (K.1 2) (nI (sx_tN α a)) (K.2 0) (K.1 3) (K.2 1) (K.2 2)) := hD.sub [9, 10, 11, 12, 13, 14] (by decide) rfl
        refine sx_calli (wr := [(h 0, .inr (3, [.int (nI L), .ref (h 1), .ref (h 6), .ref (h 8), .int (nI na), .int (sx_bI sb)])), (h 1, .inr (1, [.ref (h 2), .ref (h 3), .ref (h 4), .ref (h 5), .int (nI n)])), (h 2, .inl (cA 0, 60, .inl (α 1))), (h 3, .inl (cA 2, 60, .inl (α 2))), (h 4, .inl (cA 3, 60, .inr (.inl ab))), (h 5, .inl (cA 3, 60, .inr (.inl un))), (h 6, .inr (2, [.ref (h 7), .long sf, .long sl])), (h 7, .inl (cA 0, 60, .inl sv)), (h 8, .inl (cA 4, 10, .inr (.inr (.inr (.inr acts)))))]) (va_runV (As := [.int (nI L)]) (rest := []) ⟨hx, hb, hml, hown, hts⟩ (k_opF l D cA s.heap.size (g 0) (g 1) (g 2) (g 3) (g 4) (g 5) (K.1 0) (K.1 1) (nI (sx_dN α a)) (sx_bI (sx_fb α 12 a)) (sx_bI (sx_fb α 14 a)) (sx_bI (sx_fb α 13 a)) (sx_oN α a) (α 7 a) (K.1 2) (nI (sx_tN α a)) (K.2 0) (K.1 3) (K.2 1) (K.2 2) L hoE (by omega)) (cwV 1 hts (sx_GV wd_270 wd_271 wd_272 wd_6 wd_273) rfl rfl rfl (by decide +kernel) ⟨Nat.le_of_ble_eq_true rfl, Nat.le_of_ble_eq_true rfl⟩) (sx_preVw hK hPc hDc (va_recv hK.1 hPc (ci := 0) (q0 := 0) rfl rfl)) rfl rfl hl.1 rfl (lv_room (Nat.le_of_ble_eq_true rfl)) d_X_open_28 ⟨Nat.le_of_ble_eq_true rfl, Nat.le_of_ble_eq_true rfl⟩) hP hD hS hA [9, 10, 11, 12, 13, 14] [0, 1, 2, 3, 4, 5, 6, 7, 8] rfl rfl (by decide) (by decide) (fun r_20 u_21 H locs hr_19 hP hD hS => ?_)
        have hP : va_P D vwCl (wXA cA h g (nI L) (nI na) (sx_bI sb) (nI n) (α 1) (α 2) ab un sv sf sl acts (K.1 0) (K.1 1) (nI (sx_dN α a)) (sx_bI (sx_fb α 12 a)) (sx_bI (sx_fb α 14 a)) (nI 1) (nI (sx_oN α a)) (α 7 a) (K.1 2) (nI (sx_tN α a)) (K.2 0) (K.1 3) (K.2 1) (K.2 2)) H := hP.sub [0, 1, 2, 3, 4, 5, 6, 7, 8, 9, 10, 11, 12, 13, 14] rfl
        have hD : va_D A (wXA cA h g (nI L) (nI na) (sx_bI sb) (nI n) (α 1) (α 2) ab un sv sf sl acts (K.1 0) (K.1 1) (nI (sx_dN α a)) (sx_bI (sx_fb α 12 a)) (sx_bI (sx_fb α 14 a)) (nI 1) (nI (sx_oN α a)) (α 7 a) (K.1 2) (nI (sx_tN α a)) (K.2 0) (K.1 3) (K.2 1) (K.2 2)) := hD.sub [0, 1, 2, 3, 4, 5, 6, 7, 8, 9, 10, 11, 12, 13, 14] (by decide) rfl
        subst hr_19
        refine lv_if_ne (tgt := 37) hx hb d_X_open_31 (by decide) (fun c_22 => ?_) (fun c_22 => ?_)
        · exact absurd c_22 (by decide)
        · refine lv_bipush (v := (-9)) hx hb d_X_open_34 (by decide +kernel) ?_
          have hP9 : va_P D vwCl (wXAk cA h g (nI L) (nI na) (sx_bI sb) (nI n) (α 1) (α 2) ab un sv sf sl acts (sx_kA (K.1 0) (K.1 1) (nI (sx_dN α a)) (sx_bI (sx_fb α 12 a)) (sx_bI (sx_fb α 14 a)) (nI 1) (nI (sx_oN α a)) (α 7 a) (K.1 2) (nI (sx_tN α a)) (K.2 0) (K.1 3) (K.2 1) (K.2 2))) H := hP
          have hD9 : va_D A (wXAk cA h g (nI L) (nI na) (sx_bI sb) (nI n) (α 1) (α 2) ab un sv sf sl acts (sx_kA (K.1 0) (K.1 1) (nI (sx_dN α a)) (sx_bI (sx_fb α 12 a)) (sx_bI (sx_fb α 14 a)) (nI 1) (nI (sx_oN α a)) (α 7 a) (K.1 2) (nI (sx_tN α a)) (K.2 0) (K.1 3) (K.2 1) (K.2 2))) := hD
          exact W.iret (v := (-9)) hx hb hr (fun t ht hW => ⟨⟨(-9), (sx_kA (K.1 0) (K.1 1) (nI (sx_dN α a)) (sx_bI (sx_fb α 12 a)) (sx_bI (sx_fb α 14 a)) (nI 1) (nI (sx_oN α a)) (α 7 a) (K.1 2) (nI (sx_tN α a)) (K.2 0) (K.1 3) (K.2 1) (K.2 2)), rfl, (sx_fin2 (sx_open_lim (sx_ok_t hth c_5 (sx_has0 h1n hn60)) heq) rfl (sx_RA_of hDO htp htsb hW0 e4 e12 e14 (by rw [sx_at]; rfl) e6 rfl e8)), by rw [ht]; exact hP9, by rw [hAe]; exact hD9⟩, hS.F ht⟩) hS.2.2 d_X_open_36
    · have c_5 : (sx_has n p) = false := sx_bI0 c_5
      refine lv_iconst (v := (-1)) hx hb d_X_open_21 (by decide +kernel) ?_
      have hP9 : va_P D vwCl (wXAk cA h g (nI L) (nI na) (sx_bI sb) (nI n) (α 1) (α 2) ab un sv sf sl acts (sx_kA (K.1 0) (K.1 1) (nI (sx_dN α a)) (sx_bI (sx_fb α 12 a)) (sx_bI (sx_fb α 14 a)) (sx_bI (sx_fb α 13 a)) (nI (sx_oN α a)) (α 7 a) (K.1 2) (nI (sx_tN α a)) (K.2 0) (K.1 3) (K.2 1) (K.2 2))) s.heap := hP
      have hD9 : va_D A (wXAk cA h g (nI L) (nI na) (sx_bI sb) (nI n) (α 1) (α 2) ab un sv sf sl acts (sx_kA (K.1 0) (K.1 1) (nI (sx_dN α a)) (sx_bI (sx_fb α 12 a)) (sx_bI (sx_fb α 14 a)) (sx_bI (sx_fb α 13 a)) (nI (sx_oN α a)) (α 7 a) (K.1 2) (nI (sx_tN α a)) (K.2 0) (K.1 3) (K.2 1) (K.2 2))) := hD
      exact W.iret (v := (-1)) hx hb hr (fun t ht hW => ⟨⟨(-1), (sx_kA (K.1 0) (K.1 1) (nI (sx_dN α a)) (sx_bI (sx_fb α 12 a)) (sx_bI (sx_fb α 14 a)) (sx_bI (sx_fb α 13 a)) (nI (sx_oN α a)) (α 7 a) (K.1 2) (nI (sx_tN α a)) (K.2 0) (K.1 3) (K.2 1) (K.2 2)), rfl, (sx_fin2 (sx_open_no (sx_ok_p c_5)) rfl (sx_RA_of hDO htp htsb hW0 e4 e12 e14 e13 e6 rfl e8)), by rw [ht]; exact hP9, by rw [hAe]; exact hD9⟩, hS.F ht⟩) hS.2.2 d_X_open_22
  · refine va_csq (va_runV (As := [.int (nI a)]) (rest := []) ⟨hx, hb, hml, hown, hts⟩ (k_runN l D cA h g (nI L) na (sx_bI sb) (nI n) (α 1) (α 2) ab un sv sf sl acts (K.1 0) (K.1 1) (nI (sx_dN α a)) (sx_fb α 12 a) (sx_bI (sx_fb α 14 a)) (sx_bI (sx_fb α 13 a)) (nI (sx_oN α a)) (α 7 a) (K.1 2) (nI (sx_tN α a)) (K.2 0) (K.1 3) (K.2 1) (K.2 2) a (by omega) (by omega) hacts hth) (cwV 1 hts (sx_GV wd_266 wd_268 ws_4 wd_1 wd_269) rfl rfl rfl (by decide +kernel) ⟨Nat.le_of_ble_eq_true rfl, Nat.le_of_ble_eq_true rfl⟩) (sx_preV hK hP (va_recv hK.1 hP (ci := 3) (q0 := 0) rfl rfl)) rfl rfl hl.1 rfl (lv_room (Nat.le_of_ble_eq_true rfl)) d_X_open_2 ⟨Nat.le_of_ble_eq_true rfl, Nat.le_of_ble_eq_true rfl⟩).run (fun r_24 hr_23 => ?_)
    subst hr_23
    refine sx_asv (y := .null) rfl ?_
    refine lv_astore_nN (lv' := [(3, .null), (0, .ref (h 0)), (1, .int (nI a)), (2, .int p)]) hx hb d_X_open_5 rfl hl (by decide) rfl (fun ls hl => ?_)
    refine lv_aload_nN hx hb d_X_open_6 rfl (lv_at hl 0 rfl) ?_
    refine lv_ifnullN (tgt := 21) hx hb d_X_open_7 (by decide) ?_
    refine lv_iconst (v := (-1)) hx hb d_X_open_21 (by decide +kernel) ?_
    have hP9 : va_P D vwCl (wXAk cA h g (nI L) (nI na) (sx_bI sb) (nI n) (α 1) (α 2) ab un sv sf sl acts (sx_kA (K.1 0) (K.1 1) (nI (sx_dN α a)) (sx_bI (sx_fb α 12 a)) (sx_bI (sx_fb α 14 a)) (sx_bI (sx_fb α 13 a)) (nI (sx_oN α a)) (α 7 a) (K.1 2) (nI (sx_tN α a)) (K.2 0) (K.1 3) (K.2 1) (K.2 2))) s.heap := hP
    have hD9 : va_D A (wXAk cA h g (nI L) (nI na) (sx_bI sb) (nI n) (α 1) (α 2) ab un sv sf sl acts (sx_kA (K.1 0) (K.1 1) (nI (sx_dN α a)) (sx_bI (sx_fb α 12 a)) (sx_bI (sx_fb α 14 a)) (sx_bI (sx_fb α 13 a)) (nI (sx_oN α a)) (α 7 a) (K.1 2) (nI (sx_tN α a)) (K.2 0) (K.1 3) (K.2 1) (K.2 2))) := hD
    exact W.iret (v := (-1)) hx hb hr (fun t ht hW => ⟨⟨(-1), (sx_kA (K.1 0) (K.1 1) (nI (sx_dN α a)) (sx_bI (sx_fb α 12 a)) (sx_bI (sx_fb α 14 a)) (sx_bI (sx_fb α 13 a)) (nI (sx_oN α a)) (α 7 a) (K.1 2) (nI (sx_tN α a)) (K.2 0) (K.1 3) (K.2 1) (K.2 2)), rfl, (sx_fin2 (sx_open_no (sx_ok_th hth)) rfl (sx_RA_of hDO htp htsb hW0 e4 e12 e14 e13 e6 rfl e8)), by rw [ht]; exact hP9, by rw [hAe]; exact hD9⟩, hS.F ht⟩) hS.2.2 d_X_open_22
end
section
set_option maxHeartbeats 4000000 in
set_option maxRecDepth 100000 in
theorem k_write (l : Launch) (D : va_G) (cA : Nat → ClassId) (sz : Nat) (h g : Nat → Nat) (n na L : Nat) (sb : Bool) (α : sx_A) (ab un : Nat → Int64) (sv : Nat → Int32) (sf sl : Int64) (acts : Nat → Option Nat) (a : Nat) (K : sx_KA) (hI : sx_INV n na L α) (ha : a < na) (hR : sx_RP n (α 1) ab un) (hS0 : sx_RW (α 3) sv sf sl) (hRA : sx_RA α a K) (hacts : acts a = some (g 0)) (p ct : Int32) : Met l y_X_write w_X_write ({ frames := 6, cells := 0, slots := 0, locals := 132 }) (sx_Pw D cA [.ref (h 0), .int (nI a), .int p, .int ct] (wXAk cA h g (nI L) (nI na) (sx_bI sb) (nI n) (α 1) (α 2) ab un sv sf sl acts K) sz) (va_Qi (fun r (u : sx_KA) => r = sx_doA n L α a p 0 (sx_wrO n α a p ct) ∧ sx_RA (sx_do n L sb α a p 0 (sx_wrO n α a p ct) ct) a u) (sx_Bw D (wXAk cA h g (nI L) (nI na) (sx_bI sb) (nI n) (α 1) (α 2) ab un sv sf sl acts K) sz (fun u => wXAk cA h g (nI L) (nI na) (sx_bI sb) (nI n) (α 1) (α 2) ab un sv sf sl acts u)) (va_A (wXAk cA h g (nI L) (nI na) (sx_bI sb) (nI n) (α 1) (α 2) ab un sv sf sl acts K) sz)) 0 0 (va_A (wXAk cA h g (nI L) (nI na) (sx_bI sb) (nI n) (α 1) (α 2) ab un sv sf sl acts K) sz) := by
  refine Met.ofW (cc := b_X_write) (maxL := 5) (ret := (some .int)) (by decide) rfl ?_
  intro pG eG s m args below meth cG s₁ B hml hv
  obtain ⟨rfl, hsz, hP, hK, hD0⟩ := hv
  have hx := B.exec
  have hb := B.bytes
  have hr := B.returns
  have hts0 := atoms_spec (ws := w_X_write) B.pre
  have hts : ∀ w ∈ sx_gw, w.before _ s = true := fun w h => hts0 w (List.mem_cons_of_mem _ h)
  have hown : s.vm.findClass R_X = some m.cls := findClass_of_methodNamed B.named
  have hlocks := B.notSynchronized
  subst hsz
  have hD := hD0.self (sz := s.heap.size)
  generalize hAe : va_A (wXAk cA h g (nI L) (nI na) (sx_bI sb) (nI n) (α 1) (α 2) ab un sv sf sl acts K) s.heap.size = A at hD ⊢
  have hA : ∀ q : Nat, s.heap.size ≤ q → A q := fun q h => by rw [← hAe]; exact Or.inr h
  have hS : va_S A s.heap s.heap [] := va_S.rf
  have hl := lv_entry ([.ref (h 0), .int (nI a), .int p, .int ct]) (n := 5) (Nat.le_of_ble_eq_true rfl)
  rw [lg_entry_eq]
  generalize (lg_sl ([.ref (h 0), .int (nI a), .int p, .int ct]) ++ List.replicate (5 - (lg_sl ([.ref (h 0), .int (nI a), .int p, .int ct])).length) Slot.unset).toArray = ls at hl ⊢
  have hl : lv_has ls 5 [(0, .ref (h 0)), (1, .int (nI a)), (2, .int p), (3, .int ct)] := hl
  have hn31 := sx_INV_n hI
  have hn60 := hI.1.1.2
  have h1n := hI.1.1.1
  have hAc := sx_INV_A hI ha
  have hd12 := (sx_dN_ok hAc).1
  have hna := hI.1.2.1
  have hL5 := hI.1.2.2.2
  obtain ⟨hDO, htp, htsb, hW0, f4, f12, f14, f13, f6, f7, f8⟩ := id hRA
  have e4 : nI (sx_dN α a) = α 4 a := (sx_dN_ok hAc).2.symm
  have e12 : sx_bI (sx_fb α 12 a) = α 12 a := sx_fb_ok hAc.2.2.2.2.2.1
  have e13 : sx_bI (sx_fb α 13 a) = α 13 a := sx_fb_ok hAc.2.2.2.2.2.2.1
  have e14 : sx_bI (sx_fb α 14 a) = α 14 a := sx_fb_ok hAc.2.2.2.2.2.2.2
  have e6 : nI (sx_oN α a) = α 6 a := (sx_oN_ok hAc hL5).2
  have oL := (sx_oN_ok hAc hL5).1
  have e8 : nI (sx_tN α a) = α 8 a := (sx_tN_ok hAc).2.symm
  have t60 := (sx_tN_ok hAc).1
  rw [sx_XA_eq hAc hL5 hRA] at hP hD
  refine lv_aload_n hx hb d_X_write_0 rfl (lv_at hl 0 rfl) ?_
  refine lv_iload_n hx hb d_X_write_1 rfl (lv_at hl 1 rfl) ?_
  rcases Bool.eq_false_or_eq_true (sx_fb α 12 a) with hth | hth
  · refine va_csq (va_runV (As := [.int (nI a)]) (rest := []) ⟨hx, hb, hml, hown, hts⟩ (k_run l D cA h g (nI L) na (sx_bI sb) (nI n) (α 1) (α 2) ab un sv sf sl acts (K.1 0) (K.1 1) (nI (sx_dN α a)) (sx_fb α 12 a) (sx_bI (sx_fb α 14 a)) (sx_bI (sx_fb α 13 a)) (nI (sx_oN α a)) (α 7 a) (K.1 2) (nI (sx_tN α a)) (K.2 0) (K.1 3) (K.2 1) (K.2 2) a (by omega) (by omega) hacts hth) (cwV 1 hts (sx_GV wd_266 wd_268 ws_4 wd_1 wd_269) rfl rfl rfl (by decide +kernel) ⟨Nat.le_of_ble_eq_true rfl, Nat.le_of_ble_eq_true rfl⟩) (sx_preV hK hP (va_recv hK.1 hP (ci := 3) (q0 := 0) rfl rfl)) rfl rfl hl.1 rfl (lv_room (Nat.le_of_ble_eq_true rfl)) d_X_write_2 ⟨Nat.le_of_ble_eq_true rfl, Nat.le_of_ble_eq_true rfl⟩).run (fun r_2 hr_1 => ?_)
    subst hr_1
    refine sx_asv (y := .ref (g 0)) rfl ?_
    refine lv_astore (lv' := [(4, .ref (g 0)), (0, .ref (h 0)), (1, .int (nI a)), (2, .int p), (3, .int ct)]) hx hb d_X_write_5 hl (by decide) rfl (fun ls hl => ?_)
    refine lv_aload hx hb d_X_write_7 (lv_at hl 0 rfl) ?_
    refine lv_ifnull hx hb d_X_write_9 ?_
    refine lv_aload_n hx hb d_X_write_12 rfl (lv_at hl 1 rfl) ?_
    refine va_get (D := D) (ci := 3) (v := .ref (h 1)) (C := R_X) (T := T_X) (N := 6) hx hb hts iw_X hown hK.1 hP 0 rfl rfl 1 (by decide) (hts _ wd_70) (fun _ h9 => h9) rfl d_X_write_13 ?_
    refine lv_iload_n hx hb d_X_write_16 rfl (lv_at hl 3 rfl) ?_
    have hPc : va_P D vwCl (wP cA (h 1) (h 2) (h 3) (h 4) (h 5) (nI n) (α 1) (α 2) ab un) s.heap := hP.sub [1, 2, 3, 4, 5] rfl
    refine vp_callSi (va_runV (As := [.int p]) (rest := []) ⟨hx, hb, hml, hown, hts⟩ (k_has l D cA (h 1) (h 2) (h 3) (h 4) (h 5) n (α 1) (α 2) ab un p) (cwV 1 hts (sx_GV wd_92 wd_93 wd_94 wd_3 wd_95) rfl rfl rfl (by decide +kernel) ⟨Nat.le_of_ble_eq_true rfl, Nat.le_of_ble_eq_true rfl⟩) (sx_preV hK hPc (va_recv hK.1 hPc (ci := 1) (q0 := 0) rfl rfl)) rfl rfl hl.1 rfl (lv_room (Nat.le_of_ble_eq_true rfl)) d_X_write_17 ⟨Nat.le_of_ble_eq_true rfl, Nat.le_of_ble_eq_true rfl⟩).run (fun r_4 hr_3 => ?_)
    subst hr_3
    refine lv_if_ne (tgt := 25) hx hb d_X_write_20 (by decide) (fun c_5 => ?_) (fun c_5 => ?_)
    · have c_5 : (sx_has n p) = true := sx_bIn c_5
      obtain ⟨j, hj, rfl⟩ := sx_has_t (by omega) c_5
      refine lv_aload hx hb d_X_write_25 (lv_at hl 0 rfl) ?_
      refine lv_aload_n hx hb d_X_write_27 rfl (lv_at hl 1 rfl) ?_
      refine va_get (D := D) (ci := 3) (v := .int (nI L)) (C := R_X) (T := T_X) (N := 6) hx hb hts iw_X hown hK.1 hP 0 rfl rfl 0 (by decide) (hts _ wd_69) (fun _ h9 => h9) rfl d_X_write_28 ?_
      rcases Nat.lt_or_ge (sx_oN α a) L with hoL | hoL
      · have hne : ¬ α 6 a = nI L := fun z => by rw [← e6] at z; have := (nI_eq (by omega) (by omega)).mp z; omega
        have hPc : va_P D vwCl (wA cA (g 0) (g 1) (g 2) (g 3) (g 4) (g 5) (K.1 0) (K.1 1) (nI (sx_dN α a)) (sx_bI (sx_fb α 12 a)) (sx_bI (sx_fb α 14 a)) (sx_bI (sx_fb α 13 a)) (nI (sx_oN α a)) (α 7 a) (K.1 2) (nI (sx_tN α a)) (K.2 0) (K.1 3) (K.2 1) (K.2 2)) s.heap := hP.sub [9, 10, 11, 12, 13, 14] rfl
        have hDc : va_D A (wA cA (g 0) (g 1) (g 2) (g 3) (g 4) (g 5) (K.1 0) (K.1 1) (nI (sx_dN α a)) (sx_bI (sx_fb α 12 a)) (sx_bI (sx_fb α 14 a)) (sx_bI (sx_fb α 13 a)) (nI (sx_oN α a)) (α 7 a) (K.1 2) (nI (sx_tN α a)) (K.2 0) (K.1 3) (K.2 1) (K.2 2)) := hD.sub [9, 10, 11, 12, 13, 14] (by decide) rfl
        refine sx_calli (wr := [(h 0, .inr (3, [.int (nI L), .ref (h 1), .ref (h 6), .ref (h 8), .int (nI na), .int (sx_bI sb)])), (h 1, .inr (1, [.ref (h 2), .ref (h 3), .ref (h 4), .ref (h 5), .int (nI n)])), (h 2, .inl (cA 0, 60, .inl (α 1))), (h 3, .inl (cA 2, 60, .inl (α 2))), (h 4, .inl (cA 3, 60, .inr (.inl ab))), (h 5, .inl (cA 3, 60, .inr (.inl un))), (h 6, .inr (2, [.ref (h 7), .long sf, .long sl])), (h 7, .inl (cA 0, 60, .inl sv)), (h 8, .inl (cA 4, 10, .inr (.inr (.inr (.inr acts)))))]) (va_runV (As := [.int (nI L)]) (rest := []) ⟨hx, hb, hml, hown, hts⟩ (k_op l D cA s.heap.size (g 0) (g 1) (g 2) (g 3) (g 4) (g 5) (K.1 0) (K.1 1) (nI (sx_dN α a)) (sx_bI (sx_fb α 12 a)) (sx_bI (sx_fb α 14 a)) (sx_bI (sx_fb α 13 a)) (sx_oN α a) (α 7 a) (K.1 2) (nI (sx_tN α a)) (K.2 0) (K.1 3) (K.2 1) (K.2 2) L (by omega) (by omega)) (cwV 1 hts (sx_GV wd_270 wd_271 wd_272 wd_6 wd_273) rfl rfl rfl (by decide +kernel) ⟨Nat.le_of_ble_eq_true rfl, Nat.le_of_ble_eq_true rfl⟩) (sx_preVw hK hPc hDc (va_recv hK.1 hPc (ci := 0) (q0 := 0) rfl rfl)) rfl rfl hl.1 rfl (lv_room (Nat.le_of_ble_eq_true rfl)) d_X_write_31 ⟨Nat.le_of_ble_eq_true rfl, Nat.le_of_ble_eq_true rfl⟩) hP hD hS hA [9, 10, 11, 12, 13, 14] [0, 1, 2, 3, 4, 5, 6, 7, 8] rfl rfl (by decide) (by decide) (fun r_7 u_8 H locs hr_6 hP hD hS => ?_)
        have hP : va_P D vwCl (wXA cA h g (nI L) (nI na) (sx_bI sb) (nI n) (α 1) (α 2) ab un sv sf sl acts (K.1 0) (K.1 1) (nI (sx_dN α a)) (sx_bI (sx_fb α 12 a)) (sx_bI (sx_fb α 14 a)) (sx_bI (sx_fb α 13 a)) (nI (sx_oN α a + 1)) (α 7 a) (K.1 2) (nI (sx_tN α a)) (K.2 0) (K.1 3) (K.2 1) (K.2 2)) H := hP.sub [0, 1, 2, 3, 4, 5, 6, 7, 8, 9, 10, 11, 12, 13, 14] rfl
        have hD : va_D A (wXA cA h g (nI L) (nI na) (sx_bI sb) (nI n) (α 1) (α 2) ab un sv sf sl acts (K.1 0) (K.1 1) (nI (sx_dN α a)) (sx_bI (sx_fb α 12 a)) (sx_bI (sx_fb α 14 a)) (sx_bI (sx_fb α 13 a)) (nI (sx_oN α a + 1)) (α 7 a) (K.1 2) (nI (sx_tN α a)) (K.2 0) (K.1 3) (K.2 1) (K.2 2)) := hD.sub [0, 1, 2, 3, 4, 5, 6, 7, 8, 9, 10, 11, 12, 13, 14] (by decide) rfl
        subst hr_6
        refine lv_if_ne (tgt := 40) hx hb d_X_write_34 (by decide) (fun c_9 => ?_) (fun c_9 => ?_)
        · refine lv_iload_n hx hb d_X_write_40 rfl (lv_at hl 4 rfl) ?_
          refine lv_iconst (v := nI 1) hx hb d_X_write_41 (by decide +kernel) ?_
          refine lv_icmp_lt (tgt := 55) hx hb d_X_write_42 (by decide) (fun c_10 => ?_) (fun c_10 => ?_)
          · refine lv_aload_n hx hb d_X_write_55 rfl (lv_at hl 1 rfl) ?_
            refine lv_aload hx hb d_X_write_56 (lv_at hl 0 rfl) ?_
            refine sx_calli (wr := []) (va_runV (As := [.ref (g 0)]) (rest := []) ⟨hx, hb, hml, hown, hts⟩ (k_refuse l D cA H.size h g (nI L) (nI na) sb (nI n) (α 1) (α 2) ab un sv sf sl acts (K.1 0) (K.1 1) (nI (sx_dN α a)) (sx_bI (sx_fb α 12 a)) (sx_bI (sx_fb α 14 a)) (sx_bI (sx_fb α 13 a)) (nI (sx_oN α a + 1)) (α 7 a) (K.1 2) (nI (sx_tN α a)) (K.2 0) (K.1 3) (K.2 1) (K.2 2)) (cwV 1 hts (sx_GV wd_297 wd_299 ws_8 wd_1 wd_300) rfl rfl rfl (by decide +kernel) ⟨Nat.le_of_ble_eq_true rfl, Nat.le_of_ble_eq_true rfl⟩) (sx_preVw hK hP hD (va_recv hK.1 hP (ci := 3) (q0 := 0) rfl rfl)) rfl rfl hl.1 rfl (lv_room (Nat.le_of_ble_eq_true rfl)) d_X_write_58 ⟨Nat.le_of_ble_eq_true rfl, Nat.le_of_ble_eq_true rfl⟩) hP hD hS hA [0, 1, 2, 3, 4, 5, 6, 7, 8, 9, 10, 11, 12, 13, 14] [] rfl rfl (by decide) (by decide) (fun r_12 u_13 H locs hr_11 hP hD hS => ?_)
            have hP : va_P D vwCl (wXA cA h g (nI L) (nI na) (sx_bI sb) (nI n) (α 1) (α 2) ab un sv sf sl acts (K.1 0) (K.1 1) (nI (sx_dN α a)) (sx_bI (sx_fb α 12 a)) (sx_bI (sx_fb α 14 a)) (bif sb then 1 else (sx_bI (sx_fb α 13 a))) (nI (sx_oN α a + 1)) ((α 7 a) + 1) (K.1 2) (nI (sx_tN α a)) (K.2 0) (K.1 3) (K.2 1) (K.2 2)) H := hP.sub [0, 1, 2, 3, 4, 5, 6, 7, 8, 9, 10, 11, 12, 13, 14] rfl
            have hD : va_D A (wXA cA h g (nI L) (nI na) (sx_bI sb) (nI n) (α 1) (α 2) ab un sv sf sl acts (K.1 0) (K.1 1) (nI (sx_dN α a)) (sx_bI (sx_fb α 12 a)) (sx_bI (sx_fb α 14 a)) (bif sb then 1 else (sx_bI (sx_fb α 13 a))) (nI (sx_oN α a + 1)) ((α 7 a) + 1) (K.1 2) (nI (sx_tN α a)) (K.2 0) (K.1 3) (K.2 1) (K.2 2)) := hD.sub [0, 1, 2, 3, 4, 5, 6, 7, 8, 9, 10, 11, 12, 13, 14] (by decide) rfl
            subst hr_11
            have hP9 : va_P D vwCl (wXAk cA h g (nI L) (nI na) (sx_bI sb) (nI n) (α 1) (α 2) ab un sv sf sl acts (sx_kA (K.1 0) (K.1 1) (nI (sx_dN α a)) (sx_bI (sx_fb α 12 a)) (sx_bI (sx_fb α 14 a)) (bif sb then 1 else (sx_bI (sx_fb α 13 a))) (nI (sx_oN α a + 1)) ((α 7 a) + 1) (K.1 2) (nI (sx_tN α a)) (K.2 0) (K.1 3) (K.2 1) (K.2 2))) H := hP
            have hD9 : va_D A (wXAk cA h g (nI L) (nI na) (sx_bI sb) (nI n) (α 1) (α 2) ab un sv sf sl acts (sx_kA (K.1 0) (K.1 1) (nI (sx_dN α a)) (sx_bI (sx_fb α 12 a)) (sx_bI (sx_fb α 14 a)) (bif sb then 1 else (sx_bI (sx_fb α 13 a))) (nI (sx_oN α a + 1)) ((α 7 a) + 1) (K.1 2) (nI (sx_tN α a)) (K.2 0) (K.1 3) (K.2 1) (K.2 2))) := hD
            exact W.iret (v := nI 0) hx hb hr (fun t ht hW => ⟨⟨nI 0, (sx_kA (K.1 0) (K.1 1) (nI (sx_dN α a)) (sx_bI (sx_fb α 12 a)) (sx_bI (sx_fb α 14 a)) (bif sb then 1 else (sx_bI (sx_fb α 13 a))) (nI (sx_oN α a + 1)) ((α 7 a) + 1) (K.1 2) (nI (sx_tN α a)) (K.2 0) (K.1 3) (K.2 1) (K.2 2)), rfl, (sx_fin2 (sx_do_ref (sb := sb) (v := ct) (sx_ok_t hth (sx_has_nI (by omega) hj) (sx_has0 h1n hn60)) hne (by unfold sx_wrO; rw [decide_eq_true (show ct < 1 from c_10)]; simp)) rfl (sx_RA_of hDO htp htsb hW0 e4 e12 e14 (sx_ref_br e13 rfl) (sx_ref_op e6) sx_ref_rf e8)), by rw [ht]; exact hP9, by rw [hAe]; exact hD9⟩, hS.F ht⟩) hS.2.2 d_X_write_61
          · refine lv_aload_n hx hb d_X_write_45 rfl (lv_at hl 1 rfl) ?_
            refine lv_aload hx hb d_X_write_46 (lv_at hl 0 rfl) ?_
            refine lv_iload_n hx hb d_X_write_48 rfl (lv_at hl 3 rfl) ?_
            refine vp_callSi (va_runV (As := [.ref (g 0), .int (nI j)]) (rest := []) ⟨hx, hb, hml, hown, hts⟩ (k_can l D cA h g (nI L) (nI na) (sx_bI sb) n α ab un sv sf sl acts a (K.1 0) (K.1 1) (sx_bI (sx_fb α 12 a)) (sx_bI (sx_fb α 14 a)) (sx_bI (sx_fb α 13 a)) (nI (sx_oN α a + 1)) (α 7 a) (K.1 2) (nI (sx_tN α a)) (K.2 0) (K.1 3) (K.2 1) (K.2 2) na L hI ha hR hDO hW0 j (by omega)) (cwV 2 hts (sx_GV wd_284 wd_286 ws_5 wd_1 wd_287) rfl rfl rfl (by decide +kernel) ⟨Nat.le_of_ble_eq_true rfl, Nat.le_of_ble_eq_true rfl⟩) (sx_preV hK hP (va_recv hK.1 hP (ci := 3) (q0 := 0) rfl rfl)) rfl rfl hl.1 rfl (lv_room (Nat.le_of_ble_eq_true rfl)) d_X_write_49 ⟨Nat.le_of_ble_eq_true rfl, Nat.le_of_ble_eq_true rfl⟩).run (fun r_15 hr_14 => ?_)
            subst hr_14
            refine lv_if_ne (tgt := 62) hx hb d_X_write_52 (by decide) (fun c_16 => ?_) (fun c_16 => ?_)
            · have c_16 : (sx_isW n α a j && !sx_inW n α a j) = true := sx_bIn c_16
              refine lv_aload hx hb d_X_write_62 (lv_at hl 0 rfl) ?_
              refine va_getN (D := D) (ci := 0) (v := .ref (g 3)) (C := R_A) (T := T_A) (N := 12) hx hb hts iw_A hown hK.1 hP 9 rfl rfl 3 (by decide) (va_Nw.use rfl (hK.2.1 _ wd_166)) (fun _ h9 => h9) rfl d_X_write_64 ?_
              refine lv_iload_n hx hb d_X_write_67 rfl (lv_at hl 3 rfl) ?_
              refine lv_iload_n hx hb d_X_write_68 rfl (lv_at hl 4 rfl) ?_
              have hPc : va_P D vwCl (wS cA (g 3) (g 4) (K.1 3) (K.2 1) (K.2 2)) H := hP.sub [12, 13] rfl
              have hDc : va_D A (wS cA (g 3) (g 4) (K.1 3) (K.2 1) (K.2 2)) := hD.sub [12, 13] (by decide) rfl
              refine sx_callv (wr := [(h 0, .inr (3, [.int (nI L), .ref (h 1), .ref (h 6), .ref (h 8), .int (nI na), .int (sx_bI sb)])), (h 1, .inr (1, [.ref (h 2), .ref (h 3), .ref (h 4), .ref (h 5), .int (nI n)])), (h 2, .inl (cA 0, 60, .inl (α 1))), (h 3, .inl (cA 2, 60, .inl (α 2))), (h 4, .inl (cA 3, 60, .inr (.inl ab))), (h 5, .inl (cA 3, 60, .inr (.inl un))), (h 6, .inr (2, [.ref (h 7), .long sf, .long sl])), (h 7, .inl (cA 0, 60, .inl sv)), (h 8, .inl (cA 4, 10, .inr (.inr (.inr (.inr acts))))), (g 0, .inr (0, [.ref (g 1), .ref (g 2), .int (nI (sx_dN α a)), .ref (g 3), .int (sx_bI (sx_fb α 12 a)), .int (sx_bI (sx_fb α 14 a)), .int (sx_bI (sx_fb α 13 a)), .int (nI (sx_oN α a + 1)), .int (α 7 a), .ref (g 5), .int (nI (sx_tN α a)), .long (K.2 0)])), (g 1, .inl (cA 0, 12, .inl (K.1 0))), (g 2, .inl (cA 1, 12, .inl (K.1 1))), (g 5, .inl (cA 0, 60, .inl (K.1 2)))]) (va_runV (As := [.int (nI j), .int ct]) (rest := []) ⟨hx, hb, hml, hown, hts⟩ (k_put l D cA H.size (g 3) (g 4) (K.1 3) (K.2 1) (K.2 2) j (by omega) ct) (cwV 2 hts (sx_GV wd_131 wd_132 wd_133 wd_4 wd_134) rfl rfl rfl (by decide +kernel) ⟨Nat.le_of_ble_eq_true rfl, Nat.le_of_ble_eq_true rfl⟩) (sx_preVw hK hPc hDc (va_recv hK.1 hPc (ci := 2) (q0 := 0) rfl rfl)) rfl rfl hl.1 rfl (lv_room (Nat.le_of_ble_eq_true rfl)) d_X_write_69 ⟨Nat.le_of_ble_eq_true rfl, Nat.le_of_ble_eq_true rfl⟩) hP hD hS hA [12, 13] [0, 1, 2, 3, 4, 5, 6, 7, 8, 9, 10, 11, 14] rfl rfl (by decide) (by decide) (fun u_19 H locs hr_17 hP hD hS => ?_)
              have hP : va_P D vwCl (wXA cA h g (nI L) (nI na) (sx_bI sb) (nI n) (α 1) (α 2) ab un sv sf sl acts (K.1 0) (K.1 1) (nI (sx_dN α a)) (sx_bI (sx_fb α 12 a)) (sx_bI (sx_fb α 14 a)) (sx_bI (sx_fb α 13 a)) (nI (sx_oN α a + 1)) (α 7 a) (K.1 2) (nI (sx_tN α a)) (K.2 0) (upd (K.1 3) j ct) (((K.2 1) &&& (sx_on j ^^^ (-1))) ||| sx_on j) ((K.2 2) &&& (sx_on j ^^^ (-1)))) H := hP.sub [0, 1, 2, 3, 4, 5, 6, 7, 8, 9, 10, 11, 13, 14, 12] rfl
              have hD : va_D A (wXA cA h g (nI L) (nI na) (sx_bI sb) (nI n) (α 1) (α 2) ab un sv sf sl acts (K.1 0) (K.1 1) (nI (sx_dN α a)) (sx_bI (sx_fb α 12 a)) (sx_bI (sx_fb α 14 a)) (sx_bI (sx_fb α 13 a)) (nI (sx_oN α a + 1)) (α 7 a) (K.1 2) (nI (sx_tN α a)) (K.2 0) (upd (K.1 3) j ct) (((K.2 1) &&& (sx_on j ^^^ (-1))) ||| sx_on j) ((K.2 2) &&& (sx_on j ^^^ (-1)))) := hD.sub [0, 1, 2, 3, 4, 5, 6, 7, 8, 9, 10, 11, 13, 14, 12] (by decide) rfl
              refine lv_iconst (v := nI 1) hx hb d_X_write_72 (by decide +kernel) ?_
              have hct : 0 < ct := sx_ge1 c_10
              have hP9 : va_P D vwCl (wXAk cA h g (nI L) (nI na) (sx_bI sb) (nI n) (α 1) (α 2) ab un sv sf sl acts (sx_kA (K.1 0) (K.1 1) (nI (sx_dN α a)) (sx_bI (sx_fb α 12 a)) (sx_bI (sx_fb α 14 a)) (sx_bI (sx_fb α 13 a)) (nI (sx_oN α a + 1)) (α 7 a) (K.1 2) (nI (sx_tN α a)) (K.2 0) (upd (K.1 3) j ct) (((K.2 1) &&& (sx_on j ^^^ (-1))) ||| sx_on j) ((K.2 2) &&& (sx_on j ^^^ (-1))))) H := hP
              have hD9 : va_D A (wXAk cA h g (nI L) (nI na) (sx_bI sb) (nI n) (α 1) (α 2) ab un sv sf sl acts (sx_kA (K.1 0) (K.1 1) (nI (sx_dN α a)) (sx_bI (sx_fb α 12 a)) (sx_bI (sx_fb α 14 a)) (sx_bI (sx_fb α 13 a)) (nI (sx_oN α a + 1)) (α 7 a) (K.1 2) (nI (sx_tN α a)) (K.2 0) (upd (K.1 3) j ct) (((K.2 1) &&& (sx_on j ^^^ (-1))) ||| sx_on j) ((K.2 2) &&& (sx_on j ^^^ (-1))))) := hD
              exact W.iret (v := nI 1) hx hb hr (fun t ht hW => ⟨⟨nI 1, (sx_kA (K.1 0) (K.1 1) (nI (sx_dN α a)) (sx_bI (sx_fb α 12 a)) (sx_bI (sx_fb α 14 a)) (sx_bI (sx_fb α 13 a)) (nI (sx_oN α a + 1)) (α 7 a) (K.1 2) (nI (sx_tN α a)) (K.2 0) (upd (K.1 3) j ct) (((K.2 1) &&& (sx_on j ^^^ (-1))) ||| sx_on j) ((K.2 2) &&& (sx_on j ^^^ (-1)))), rfl, (sx_fin2 (sx_do_yes (sb := sb) (v := ct) (by omega) (sx_ok_t hth (sx_has_nI (by omega) hj) (sx_has0 h1n hn60)) hne (by unfold sx_wrO; rw [nI_clamp (by omega), c_16, decide_eq_false (show ¬ ct < 1 from c_10)]; rfl)) rfl (sx_RA_w hDO htp htsb (sx_W_put hW0 (by omega) hct) e4 e12 e14 e13 e6 rfl e8)), by rw [ht]; exact hP9, by rw [hAe]; exact hD9⟩, hS.F ht⟩) hS.2.2 d_X_write_73
            · have c_16 : (sx_isW n α a j && !sx_inW n α a j) = false := sx_bI0 c_16
              refine lv_aload_n hx hb d_X_write_55 rfl (lv_at hl 1 rfl) ?_
              refine lv_aload hx hb d_X_write_56 (lv_at hl 0 rfl) ?_
              refine sx_calli (wr := []) (va_runV (As := [.ref (g 0)]) (rest := []) ⟨hx, hb, hml, hown, hts⟩ (k_refuse l D cA H.size h g (nI L) (nI na) sb (nI n) (α 1) (α 2) ab un sv sf sl acts (K.1 0) (K.1 1) (nI (sx_dN α a)) (sx_bI (sx_fb α 12 a)) (sx_bI (sx_fb α 14 a)) (sx_bI (sx_fb α 13 a)) (nI (sx_oN α a + 1)) (α 7 a) (K.1 2) (nI (sx_tN α a)) (K.2 0) (K.1 3) (K.2 1) (K.2 2)) (cwV 1 hts (sx_GV wd_297 wd_299 ws_8 wd_1 wd_300) rfl rfl rfl (by decide +kernel) ⟨Nat.le_of_ble_eq_true rfl, Nat.le_of_ble_eq_true rfl⟩) (sx_preVw hK hP hD (va_recv hK.1 hP (ci := 3) (q0 := 0) rfl rfl)) rfl rfl hl.1 rfl (lv_room (Nat.le_of_ble_eq_true rfl)) d_X_write_58 ⟨Nat.le_of_ble_eq_true rfl, Nat.le_of_ble_eq_true rfl⟩) hP hD hS hA [0, 1, 2, 3, 4, 5, 6, 7, 8, 9, 10, 11, 12, 13, 14] [] rfl rfl (by decide) (by decide) (fun r_21 u_22 H locs hr_20 hP hD hS => ?_)
              have hP : va_P D vwCl (wXA cA h g (nI L) (nI na) (sx_bI sb) (nI n) (α 1) (α 2) ab un sv sf sl acts (K.1 0) (K.1 1) (nI (sx_dN α a)) (sx_bI (sx_fb α 12 a)) (sx_bI (sx_fb α 14 a)) (bif sb then 1 else (sx_bI (sx_fb α 13 a))) (nI (sx_oN α a + 1)) ((α 7 a) + 1) (K.1 2) (nI (sx_tN α a)) (K.2 0) (K.1 3) (K.2 1) (K.2 2)) H := hP.sub [0, 1, 2, 3, 4, 5, 6, 7, 8, 9, 10, 11, 12, 13, 14] rfl
              have hD : va_D A (wXA cA h g (nI L) (nI na) (sx_bI sb) (nI n) (α 1) (α 2) ab un sv sf sl acts (K.1 0) (K.1 1) (nI (sx_dN α a)) (sx_bI (sx_fb α 12 a)) (sx_bI (sx_fb α 14 a)) (bif sb then 1 else (sx_bI (sx_fb α 13 a))) (nI (sx_oN α a + 1)) ((α 7 a) + 1) (K.1 2) (nI (sx_tN α a)) (K.2 0) (K.1 3) (K.2 1) (K.2 2)) := hD.sub [0, 1, 2, 3, 4, 5, 6, 7, 8, 9, 10, 11, 12, 13, 14] (by decide) rfl
              subst hr_20
              have hP9 : va_P D vwCl (wXAk cA h g (nI L) (nI na) (sx_bI sb) (nI n) (α 1) (α 2) ab un sv sf sl acts (sx_kA (K.1 0) (K.1 1) (nI (sx_dN α a)) (sx_bI (sx_fb α 12 a)) (sx_bI (sx_fb α 14 a)) (bif sb then 1 else (sx_bI (sx_fb α 13 a))) (nI (sx_oN α a + 1)) ((α 7 a) + 1) (K.1 2) (nI (sx_tN α a)) (K.2 0) (K.1 3) (K.2 1) (K.2 2))) H := hP
              have hD9 : va_D A (wXAk cA h g (nI L) (nI na) (sx_bI sb) (nI n) (α 1) (α 2) ab un sv sf sl acts (sx_kA (K.1 0) (K.1 1) (nI (sx_dN α a)) (sx_bI (sx_fb α 12 a)) (sx_bI (sx_fb α 14 a)) (bif sb then 1 else (sx_bI (sx_fb α 13 a))) (nI (sx_oN α a + 1)) ((α 7 a) + 1) (K.1 2) (nI (sx_tN α a)) (K.2 0) (K.1 3) (K.2 1) (K.2 2))) := hD
              exact W.iret (v := nI 0) hx hb hr (fun t ht hW => ⟨⟨nI 0, (sx_kA (K.1 0) (K.1 1) (nI (sx_dN α a)) (sx_bI (sx_fb α 12 a)) (sx_bI (sx_fb α 14 a)) (bif sb then 1 else (sx_bI (sx_fb α 13 a))) (nI (sx_oN α a + 1)) ((α 7 a) + 1) (K.1 2) (nI (sx_tN α a)) (K.2 0) (K.1 3) (K.2 1) (K.2 2)), rfl, (sx_fin2 (sx_do_ref (sb := sb) (v := ct) (sx_ok_t hth (sx_has_nI (by omega) hj) (sx_has0 h1n hn60)) hne (by unfold sx_wrO; rw [nI_clamp (by omega), c_16]; rfl)) rfl (sx_RA_of hDO htp htsb hW0 e4 e12 e14 (sx_ref_br e13 rfl) (sx_ref_op e6) sx_ref_rf e8)), by rw [ht]; exact hP9, by rw [hAe]; exact hD9⟩, hS.F ht⟩) hS.2.2 d_X_write_61
        · exact absurd c_9 (by decide)
      · have hoE : sx_oN α a = L := by omega
        have heq : α 6 a = nI L := by rw [← e6, hoE]
        have hPc : va_P D vwCl (wA cA (g 0) (g 1) (g 2) (g 3) (g 4) (g 5) (K.1 0) (K.1 1) (nI (sx_dN α a)) (sx_bI (sx_fb α 12 a)) (sx_bI (sx_fb α 14 a)) (sx_bI (sx_fb α 13 a)) (nI (sx_oN α a)) (α 7 a) (K.1 2) (nI (sx_tN α a)) (K.2 0) (K.1 3) (K.2 1) (K.2 2)) s.heap := hP.sub [9, 10, 11, 12, 13, 14] rfl
        have hDc : va_D A (wA cA (g 0) (g 1) (g 2) (g 3) (g 4) (g 5) (K.1 0) (K.1 1) (nI (sx_dN α a)) (sx_bI (sx_fb α 12 a)) (sx_bI (sx_fb α 14 a)) (sx_bI (sx_fb α 13 a)) (nI (sx_oN α a)) (α 7 a) (K.1 2) (nI (sx_tN α a)) (K.2 0) (K.1 3) (K.2 1) (K.2 2)) := hD.sub [9, 10, 11, 12, 13, 14] (by decide) rfl
        refine sx_calli (wr := [(h 0, .inr (3, [.int (nI L), .ref (h 1), .ref (h 6), .ref (h 8), .int (nI na), .int (sx_bI sb)])), (h 1, .inr (1, [.ref (h 2), .ref (h 3), .ref (h 4), .ref (h 5), .int (nI n)])), (h 2, .inl (cA 0, 60, .inl (α 1))), (h 3, .inl (cA 2, 60, .inl (α 2))), (h 4, .inl (cA 3, 60, .inr (.inl ab))), (h 5, .inl (cA 3, 60, .inr (.inl un))), (h 6, .inr (2, [.ref (h 7), .long sf, .long sl])), (h 7, .inl (cA 0, 60, .inl sv)), (h 8, .inl (cA 4, 10, .inr (.inr (.inr (.inr acts)))))]) (va_runV (As := [.int (nI L)]) (rest := []) ⟨hx, hb, hml, hown, hts⟩ (k_opF l D cA s.heap.size (g 0) (g 1) (g 2) (g 3) (g 4) (g 5) (K.1 0) (K.1 1) (nI (sx_dN α a)) (sx_bI (sx_fb α 12 a)) (sx_bI (sx_fb α 14 a)) (sx_bI (sx_fb α 13 a)) (sx_oN α a) (α 7 a) (K.1 2) (nI (sx_tN α a)) (K.2 0) (K.1 3) (K.2 1) (K.2 2) L hoE (by omega)) (cwV 1 hts (sx_GV wd_270 wd_271 wd_272 wd_6 wd_273) rfl rfl rfl (by decide +kernel) ⟨Nat.le_of_ble_eq_true rfl, Nat.le_of_ble_eq_true rfl⟩) (sx_preVw hK hPc hDc (va_recv hK.1 hPc (ci := 0) (q0 := 0) rfl rfl)) rfl rfl hl.1 rfl (lv_room (Nat.le_of_ble_eq_true rfl)) d_X_write_31 ⟨Nat.le_of_ble_eq_true rfl, Nat.le_of_ble_eq_true rfl⟩) hP hD hS hA [9, 10, 11, 12, 13, 14] [0, 1, 2, 3, 4, 5, 6, 7, 8] rfl rfl (by decide) (by decide) (fun r_24 u_25 H locs hr_23 hP hD hS => ?_)
        have hP : va_P D vwCl (wXA cA h g (nI L) (nI na) (sx_bI sb) (nI n) (α 1) (α 2) ab un sv sf sl acts (K.1 0) (K.1 1) (nI (sx_dN α a)) (sx_bI (sx_fb α 12 a)) (sx_bI (sx_fb α 14 a)) (nI 1) (nI (sx_oN α a)) (α 7 a) (K.1 2) (nI (sx_tN α a)) (K.2 0) (K.1 3) (K.2 1) (K.2 2)) H := hP.sub [0, 1, 2, 3, 4, 5, 6, 7, 8, 9, 10, 11, 12, 13, 14] rfl
        have hD : va_D A (wXA cA h g (nI L) (nI na) (sx_bI sb) (nI n) (α 1) (α 2) ab un sv sf sl acts (K.1 0) (K.1 1) (nI (sx_dN α a)) (sx_bI (sx_fb α 12 a)) (sx_bI (sx_fb α 14 a)) (nI 1) (nI (sx_oN α a)) (α 7 a) (K.1 2) (nI (sx_tN α a)) (K.2 0) (K.1 3) (K.2 1) (K.2 2)) := hD.sub [0, 1, 2, 3, 4, 5, 6, 7, 8, 9, 10, 11, 12, 13, 14] (by decide) rfl
        subst hr_23
        refine lv_if_ne (tgt := 40) hx hb d_X_write_34 (by decide) (fun c_26 => ?_) (fun c_26 => ?_)
        · exact absurd c_26 (by decide)
        · refine lv_bipush (v := (-9)) hx hb d_X_write_37 (by decide +kernel) ?_
          have hP9 : va_P D vwCl (wXAk cA h g (nI L) (nI na) (sx_bI sb) (nI n) (α 1) (α 2) ab un sv sf sl acts (sx_kA (K.1 0) (K.1 1) (nI (sx_dN α a)) (sx_bI (sx_fb α 12 a)) (sx_bI (sx_fb α 14 a)) (nI 1) (nI (sx_oN α a)) (α 7 a) (K.1 2) (nI (sx_tN α a)) (K.2 0) (K.1 3) (K.2 1) (K.2 2))) H := hP
          have hD9 : va_D A (wXAk cA h g (nI L) (nI na) (sx_bI sb) (nI n) (α 1) (α 2) ab un sv sf sl acts (sx_kA (K.1 0) (K.1 1) (nI (sx_dN α a)) (sx_bI (sx_fb α 12 a)) (sx_bI (sx_fb α 14 a)) (nI 1) (nI (sx_oN α a)) (α 7 a) (K.1 2) (nI (sx_tN α a)) (K.2 0) (K.1 3) (K.2 1) (K.2 2))) := hD
          exact W.iret (v := (-9)) hx hb hr (fun t ht hW => ⟨⟨(-9), (sx_kA (K.1 0) (K.1 1) (nI (sx_dN α a)) (sx_bI (sx_fb α 12 a)) (sx_bI (sx_fb α 14 a)) (nI 1) (nI (sx_oN α a)) (α 7 a) (K.1 2) (nI (sx_tN α a)) (K.2 0) (K.1 3) (K.2 1) (K.2 2)), rfl, (sx_fin2 (sx_do_lim (sb := sb) (v := ct) (sx_ok_t hth c_5 (sx_has0 h1n hn60)) heq) rfl (sx_RA_of hDO htp htsb hW0 e4 e12 e14 (by rw [sx_at]; rfl) e6 rfl e8)), by rw [ht]; exact hP9, by rw [hAe]; exact hD9⟩, hS.F ht⟩) hS.2.2 d_X_write_39
    · have c_5 : (sx_has n p) = false := sx_bI0 c_5
      refine lv_iconst (v := (-1)) hx hb d_X_write_23 (by decide +kernel) ?_
      have hP9 : va_P D vwCl (wXAk cA h g (nI L) (nI na) (sx_bI sb) (nI n) (α 1) (α 2) ab un sv sf sl acts (sx_kA (K.1 0) (K.1 1) (nI (sx_dN α a)) (sx_bI (sx_fb α 12 a)) (sx_bI (sx_fb α 14 a)) (sx_bI (sx_fb α 13 a)) (nI (sx_oN α a)) (α 7 a) (K.1 2) (nI (sx_tN α a)) (K.2 0) (K.1 3) (K.2 1) (K.2 2))) s.heap := hP
      have hD9 : va_D A (wXAk cA h g (nI L) (nI na) (sx_bI sb) (nI n) (α 1) (α 2) ab un sv sf sl acts (sx_kA (K.1 0) (K.1 1) (nI (sx_dN α a)) (sx_bI (sx_fb α 12 a)) (sx_bI (sx_fb α 14 a)) (sx_bI (sx_fb α 13 a)) (nI (sx_oN α a)) (α 7 a) (K.1 2) (nI (sx_tN α a)) (K.2 0) (K.1 3) (K.2 1) (K.2 2))) := hD
      exact W.iret (v := (-1)) hx hb hr (fun t ht hW => ⟨⟨(-1), (sx_kA (K.1 0) (K.1 1) (nI (sx_dN α a)) (sx_bI (sx_fb α 12 a)) (sx_bI (sx_fb α 14 a)) (sx_bI (sx_fb α 13 a)) (nI (sx_oN α a)) (α 7 a) (K.1 2) (nI (sx_tN α a)) (K.2 0) (K.1 3) (K.2 1) (K.2 2)), rfl, (sx_fin2 (sx_do_no (sb := sb) (v := ct) (sx_ok_p c_5)) rfl (sx_RA_of hDO htp htsb hW0 e4 e12 e14 e13 e6 rfl e8)), by rw [ht]; exact hP9, by rw [hAe]; exact hD9⟩, hS.F ht⟩) hS.2.2 d_X_write_24
  · refine va_csq (va_runV (As := [.int (nI a)]) (rest := []) ⟨hx, hb, hml, hown, hts⟩ (k_runN l D cA h g (nI L) na (sx_bI sb) (nI n) (α 1) (α 2) ab un sv sf sl acts (K.1 0) (K.1 1) (nI (sx_dN α a)) (sx_fb α 12 a) (sx_bI (sx_fb α 14 a)) (sx_bI (sx_fb α 13 a)) (nI (sx_oN α a)) (α 7 a) (K.1 2) (nI (sx_tN α a)) (K.2 0) (K.1 3) (K.2 1) (K.2 2) a (by omega) (by omega) hacts hth) (cwV 1 hts (sx_GV wd_266 wd_268 ws_4 wd_1 wd_269) rfl rfl rfl (by decide +kernel) ⟨Nat.le_of_ble_eq_true rfl, Nat.le_of_ble_eq_true rfl⟩) (sx_preV hK hP (va_recv hK.1 hP (ci := 3) (q0 := 0) rfl rfl)) rfl rfl hl.1 rfl (lv_room (Nat.le_of_ble_eq_true rfl)) d_X_write_2 ⟨Nat.le_of_ble_eq_true rfl, Nat.le_of_ble_eq_true rfl⟩).run (fun r_28 hr_27 => ?_)
    subst hr_27
    refine sx_asv (y := .null) rfl ?_
    refine lv_astoreN (lv' := [(4, .null), (0, .ref (h 0)), (1, .int (nI a)), (2, .int p), (3, .int ct)]) hx hb d_X_write_5 hl (by decide) rfl (fun ls hl => ?_)
    refine lv_aloadN hx hb d_X_write_7 (lv_at hl 0 rfl) ?_
    refine lv_ifnullN (tgt := 23) hx hb d_X_write_9 (by decide) ?_
    refine lv_iconst (v := (-1)) hx hb d_X_write_23 (by decide +kernel) ?_
    have hP9 : va_P D vwCl (wXAk cA h g (nI L) (nI na) (sx_bI sb) (nI n) (α 1) (α 2) ab un sv sf sl acts (sx_kA (K.1 0) (K.1 1) (nI (sx_dN α a)) (sx_bI (sx_fb α 12 a)) (sx_bI (sx_fb α 14 a)) (sx_bI (sx_fb α 13 a)) (nI (sx_oN α a)) (α 7 a) (K.1 2) (nI (sx_tN α a)) (K.2 0) (K.1 3) (K.2 1) (K.2 2))) s.heap := hP
    have hD9 : va_D A (wXAk cA h g (nI L) (nI na) (sx_bI sb) (nI n) (α 1) (α 2) ab un sv sf sl acts (sx_kA (K.1 0) (K.1 1) (nI (sx_dN α a)) (sx_bI (sx_fb α 12 a)) (sx_bI (sx_fb α 14 a)) (sx_bI (sx_fb α 13 a)) (nI (sx_oN α a)) (α 7 a) (K.1 2) (nI (sx_tN α a)) (K.2 0) (K.1 3) (K.2 1) (K.2 2))) := hD
    exact W.iret (v := (-1)) hx hb hr (fun t ht hW => ⟨⟨(-1), (sx_kA (K.1 0) (K.1 1) (nI (sx_dN α a)) (sx_bI (sx_fb α 12 a)) (sx_bI (sx_fb α 14 a)) (sx_bI (sx_fb α 13 a)) (nI (sx_oN α a)) (α 7 a) (K.1 2) (nI (sx_tN α a)) (K.2 0) (K.1 3) (K.2 1) (K.2 2)), rfl, (sx_fin2 (sx_do_no (sb := sb) (v := ct) (sx_ok_th hth)) rfl (sx_RA_of hDO htp htsb hW0 e4 e12 e14 e13 e6 rfl e8)), by rw [ht]; exact hP9, by rw [hAe]; exact hD9⟩, hS.F ht⟩) hS.2.2 d_X_write_24
end
section
set_option maxHeartbeats 4000000 in
set_option maxRecDepth 100000 in
theorem k_link (l : Launch) (D : va_G) (cA : Nat → ClassId) (sz : Nat) (h g : Nat → Nat) (n na L : Nat) (sb : Bool) (α : sx_A) (ab un : Nat → Int64) (sv : Nat → Int32) (sf sl : Int64) (acts : Nat → Option Nat) (a : Nat) (K : sx_KA) (hI : sx_INV n na L α) (ha : a < na) (hR : sx_RP n (α 1) ab un) (hS0 : sx_RW (α 3) sv sf sl) (hRA : sx_RA α a K) (hacts : acts a = some (g 0)) (p to : Int32) : Met l y_X_link w_X_link ({ frames := 6, cells := 0, slots := 0, locals := 132 }) (sx_Pw D cA [.ref (h 0), .int (nI a), .int p, .int to] (wXAk cA h g (nI L) (nI na) (sx_bI sb) (nI n) (α 1) (α 2) ab un sv sf sl acts K) sz) (va_Qi (fun r (u : sx_KA) => r = sx_doA n L α a p to (sx_lkO n α a p to) ∧ sx_RA (sx_do n L sb α a p to (sx_lkO n α a p to) (-1 - to)) a u) (sx_Bw D (wXAk cA h g (nI L) (nI na) (sx_bI sb) (nI n) (α 1) (α 2) ab un sv sf sl acts K) sz (fun u => wXAk cA h g (nI L) (nI na) (sx_bI sb) (nI n) (α 1) (α 2) ab un sv sf sl acts u)) (va_A (wXAk cA h g (nI L) (nI na) (sx_bI sb) (nI n) (α 1) (α 2) ab un sv sf sl acts K) sz)) 0 0 (va_A (wXAk cA h g (nI L) (nI na) (sx_bI sb) (nI n) (α 1) (α 2) ab un sv sf sl acts K) sz) := by
  refine Met.ofW (cc := b_X_link) (maxL := 7) (ret := (some .int)) (by decide) rfl ?_
  intro pG eG s m args below meth cG s₁ B hml hv
  obtain ⟨rfl, hsz, hP, hK, hD0⟩ := hv
  have hx := B.exec
  have hb := B.bytes
  have hr := B.returns
  have hts0 := atoms_spec (ws := w_X_link) B.pre
  have hts : ∀ w ∈ sx_gw, w.before _ s = true := fun w h => hts0 w (List.mem_cons_of_mem _ h)
  have hown : s.vm.findClass R_X = some m.cls := findClass_of_methodNamed B.named
  have hlocks := B.notSynchronized
  subst hsz
  have hD := hD0.self (sz := s.heap.size)
  generalize hAe : va_A (wXAk cA h g (nI L) (nI na) (sx_bI sb) (nI n) (α 1) (α 2) ab un sv sf sl acts K) s.heap.size = A at hD ⊢
  have hA : ∀ q : Nat, s.heap.size ≤ q → A q := fun q h => by rw [← hAe]; exact Or.inr h
  have hS : va_S A s.heap s.heap [] := va_S.rf
  have hl := lv_entry ([.ref (h 0), .int (nI a), .int p, .int to]) (n := 7) (Nat.le_of_ble_eq_true rfl)
  rw [lg_entry_eq]
  generalize (lg_sl ([.ref (h 0), .int (nI a), .int p, .int to]) ++ List.replicate (7 - (lg_sl ([.ref (h 0), .int (nI a), .int p, .int to])).length) Slot.unset).toArray = ls at hl ⊢
  have hl : lv_has ls 7 [(0, .ref (h 0)), (1, .int (nI a)), (2, .int p), (3, .int to)] := hl
  have hn31 := sx_INV_n hI
  have hn60 := hI.1.1.2
  have h1n := hI.1.1.1
  have hAc := sx_INV_A hI ha
  have hd12 := (sx_dN_ok hAc).1
  have hna := hI.1.2.1
  have hL5 := hI.1.2.2.2
  obtain ⟨hDO, htp, htsb, hW0, f4, f12, f14, f13, f6, f7, f8⟩ := id hRA
  have e4 : nI (sx_dN α a) = α 4 a := (sx_dN_ok hAc).2.symm
  have e12 : sx_bI (sx_fb α 12 a) = α 12 a := sx_fb_ok hAc.2.2.2.2.2.1
  have e13 : sx_bI (sx_fb α 13 a) = α 13 a := sx_fb_ok hAc.2.2.2.2.2.2.1
  have e14 : sx_bI (sx_fb α 14 a) = α 14 a := sx_fb_ok hAc.2.2.2.2.2.2.2
  have e6 : nI (sx_oN α a) = α 6 a := (sx_oN_ok hAc hL5).2
  have oL := (sx_oN_ok hAc hL5).1
  have e8 : nI (sx_tN α a) = α 8 a := (sx_tN_ok hAc).2.symm
  have t60 := (sx_tN_ok hAc).1
  rw [sx_XA_eq hAc hL5 hRA] at hP hD
  refine lv_aload_n hx hb d_X_link_0 rfl (lv_at hl 0 rfl) ?_
  refine lv_iload_n hx hb d_X_link_1 rfl (lv_at hl 1 rfl) ?_
  rcases Bool.eq_false_or_eq_true (sx_fb α 12 a) with hth | hth
  · refine va_csq (va_runV (As := [.int (nI a)]) (rest := []) ⟨hx, hb, hml, hown, hts⟩ (k_run l D cA h g (nI L) na (sx_bI sb) (nI n) (α 1) (α 2) ab un sv sf sl acts (K.1 0) (K.1 1) (nI (sx_dN α a)) (sx_fb α 12 a) (sx_bI (sx_fb α 14 a)) (sx_bI (sx_fb α 13 a)) (nI (sx_oN α a)) (α 7 a) (K.1 2) (nI (sx_tN α a)) (K.2 0) (K.1 3) (K.2 1) (K.2 2) a (by omega) (by omega) hacts hth) (cwV 1 hts (sx_GV wd_266 wd_268 ws_4 wd_1 wd_269) rfl rfl rfl (by decide +kernel) ⟨Nat.le_of_ble_eq_true rfl, Nat.le_of_ble_eq_true rfl⟩) (sx_preV hK hP (va_recv hK.1 hP (ci := 3) (q0 := 0) rfl rfl)) rfl rfl hl.1 rfl (lv_room (Nat.le_of_ble_eq_true rfl)) d_X_link_2 ⟨Nat.le_of_ble_eq_true rfl, Nat.le_of_ble_eq_true rfl⟩).run (fun r_2 hr_1 => ?_)
    subst hr_1
    refine sx_asv (y := .ref (g 0)) rfl ?_
    refine lv_astore (lv' := [(4, .ref (g 0)), (0, .ref (h 0)), (1, .int (nI a)), (2, .int p), (3, .int to)]) hx hb d_X_link_5 hl (by decide) rfl (fun ls hl => ?_)
    refine lv_aload hx hb d_X_link_7 (lv_at hl 0 rfl) ?_
    refine lv_ifnull hx hb d_X_link_9 ?_
    refine lv_aload_n hx hb d_X_link_12 rfl (lv_at hl 1 rfl) ?_
    refine va_get (D := D) (ci := 3) (v := .ref (h 1)) (C := R_X) (T := T_X) (N := 6) hx hb hts iw_X hown hK.1 hP 0 rfl rfl 1 (by decide) (hts _ wd_70) (fun _ h9 => h9) rfl d_X_link_13 ?_
    refine lv_iload_n hx hb d_X_link_16 rfl (lv_at hl 3 rfl) ?_
    have hPc : va_P D vwCl (wP cA (h 1) (h 2) (h 3) (h 4) (h 5) (nI n) (α 1) (α 2) ab un) s.heap := hP.sub [1, 2, 3, 4, 5] rfl
    refine vp_callSi (va_runV (As := [.int p]) (rest := []) ⟨hx, hb, hml, hown, hts⟩ (k_has l D cA (h 1) (h 2) (h 3) (h 4) (h 5) n (α 1) (α 2) ab un p) (cwV 1 hts (sx_GV wd_92 wd_93 wd_94 wd_3 wd_95) rfl rfl rfl (by decide +kernel) ⟨Nat.le_of_ble_eq_true rfl, Nat.le_of_ble_eq_true rfl⟩) (sx_preV hK hPc (va_recv hK.1 hPc (ci := 1) (q0 := 0) rfl rfl)) rfl rfl hl.1 rfl (lv_room (Nat.le_of_ble_eq_true rfl)) d_X_link_17 ⟨Nat.le_of_ble_eq_true rfl, Nat.le_of_ble_eq_true rfl⟩).run (fun r_4 hr_3 => ?_)
    subst hr_3
    refine lv_if_eq (tgt := 34) hx hb d_X_link_20 (by decide) (fun c_5 => ?_) (fun c_5 => ?_)
    · have c_5 : (sx_has n p) = false := sx_bI0 c_5
      refine lv_iconst (v := (-1)) hx hb d_X_link_34 (by decide +kernel) ?_
      have hP9 : va_P D vwCl (wXAk cA h g (nI L) (nI na) (sx_bI sb) (nI n) (α 1) (α 2) ab un sv sf sl acts (sx_kA (K.1 0) (K.1 1) (nI (sx_dN α a)) (sx_bI (sx_fb α 12 a)) (sx_bI (sx_fb α 14 a)) (sx_bI (sx_fb α 13 a)) (nI (sx_oN α a)) (α 7 a) (K.1 2) (nI (sx_tN α a)) (K.2 0) (K.1 3) (K.2 1) (K.2 2))) s.heap := hP
      have hD9 : va_D A (wXAk cA h g (nI L) (nI na) (sx_bI sb) (nI n) (α 1) (α 2) ab un sv sf sl acts (sx_kA (K.1 0) (K.1 1) (nI (sx_dN α a)) (sx_bI (sx_fb α 12 a)) (sx_bI (sx_fb α 14 a)) (sx_bI (sx_fb α 13 a)) (nI (sx_oN α a)) (α 7 a) (K.1 2) (nI (sx_tN α a)) (K.2 0) (K.1 3) (K.2 1) (K.2 2))) := hD
      exact W.iret (v := (-1)) hx hb hr (fun t ht hW => ⟨⟨(-1), (sx_kA (K.1 0) (K.1 1) (nI (sx_dN α a)) (sx_bI (sx_fb α 12 a)) (sx_bI (sx_fb α 14 a)) (sx_bI (sx_fb α 13 a)) (nI (sx_oN α a)) (α 7 a) (K.1 2) (nI (sx_tN α a)) (K.2 0) (K.1 3) (K.2 1) (K.2 2)), rfl, (sx_fin2 (sx_do_no (sb := sb) (v := -1 - to) (sx_ok_p c_5)) rfl (sx_RA_of hDO htp htsb hW0 e4 e12 e14 e13 e6 rfl e8)), by rw [ht]; exact hP9, by rw [hAe]; exact hD9⟩, hS.F ht⟩) hS.2.2 d_X_link_35
    · have c_5 : (sx_has n p) = true := sx_bIn c_5
      refine lv_aload_n hx hb d_X_link_23 rfl (lv_at hl 1 rfl) ?_
      refine va_get (D := D) (ci := 3) (v := .ref (h 1)) (C := R_X) (T := T_X) (N := 6) hx hb hts iw_X hown hK.1 hP 0 rfl rfl 1 (by decide) (hts _ wd_70) (fun _ h9 => h9) rfl d_X_link_24 ?_
      refine lv_iload_n hx hb d_X_link_27 rfl (lv_at hl 4 rfl) ?_
      have hPc : va_P D vwCl (wP cA (h 1) (h 2) (h 3) (h 4) (h 5) (nI n) (α 1) (α 2) ab un) s.heap := hP.sub [1, 2, 3, 4, 5] rfl
      refine vp_callSi (va_runV (As := [.int to]) (rest := []) ⟨hx, hb, hml, hown, hts⟩ (k_has l D cA (h 1) (h 2) (h 3) (h 4) (h 5) n (α 1) (α 2) ab un to) (cwV 1 hts (sx_GV wd_92 wd_93 wd_94 wd_3 wd_95) rfl rfl rfl (by decide +kernel) ⟨Nat.le_of_ble_eq_true rfl, Nat.le_of_ble_eq_true rfl⟩) (sx_preV hK hPc (va_recv hK.1 hPc (ci := 1) (q0 := 0) rfl rfl)) rfl rfl hl.1 rfl (lv_room (Nat.le_of_ble_eq_true rfl)) d_X_link_28 ⟨Nat.le_of_ble_eq_true rfl, Nat.le_of_ble_eq_true rfl⟩).run (fun r_7 hr_6 => ?_)
      subst hr_6
      refine lv_if_ne (tgt := 36) hx hb d_X_link_31 (by decide) (fun c_8 => ?_) (fun c_8 => ?_)
      · have c_8 : (sx_has n to) = true := sx_bIn c_8
        obtain ⟨j, hj, rfl⟩ := sx_has_t (by omega) c_5
        obtain ⟨q, hq, rfl⟩ := sx_has_t (by omega) c_8
        refine lv_aload hx hb d_X_link_36 (lv_at hl 0 rfl) ?_
        refine lv_aload_n hx hb d_X_link_38 rfl (lv_at hl 1 rfl) ?_
        refine va_get (D := D) (ci := 3) (v := .int (nI L)) (C := R_X) (T := T_X) (N := 6) hx hb hts iw_X hown hK.1 hP 0 rfl rfl 0 (by decide) (hts _ wd_69) (fun _ h9 => h9) rfl d_X_link_39 ?_
        rcases Nat.lt_or_ge (sx_oN α a) L with hoL | hoL
        · have hne : ¬ α 6 a = nI L := fun z => by rw [← e6] at z; have := (nI_eq (by omega) (by omega)).mp z; omega
          have hPc : va_P D vwCl (wA cA (g 0) (g 1) (g 2) (g 3) (g 4) (g 5) (K.1 0) (K.1 1) (nI (sx_dN α a)) (sx_bI (sx_fb α 12 a)) (sx_bI (sx_fb α 14 a)) (sx_bI (sx_fb α 13 a)) (nI (sx_oN α a)) (α 7 a) (K.1 2) (nI (sx_tN α a)) (K.2 0) (K.1 3) (K.2 1) (K.2 2)) s.heap := hP.sub [9, 10, 11, 12, 13, 14] rfl
          have hDc : va_D A (wA cA (g 0) (g 1) (g 2) (g 3) (g 4) (g 5) (K.1 0) (K.1 1) (nI (sx_dN α a)) (sx_bI (sx_fb α 12 a)) (sx_bI (sx_fb α 14 a)) (sx_bI (sx_fb α 13 a)) (nI (sx_oN α a)) (α 7 a) (K.1 2) (nI (sx_tN α a)) (K.2 0) (K.1 3) (K.2 1) (K.2 2)) := hD.sub [9, 10, 11, 12, 13, 14] (by decide) rfl
          refine sx_calli (wr := [(h 0, .inr (3, [.int (nI L), .ref (h 1), .ref (h 6), .ref (h 8), .int (nI na), .int (sx_bI sb)])), (h 1, .inr (1, [.ref (h 2), .ref (h 3), .ref (h 4), .ref (h 5), .int (nI n)])), (h 2, .inl (cA 0, 60, .inl (α 1))), (h 3, .inl (cA 2, 60, .inl (α 2))), (h 4, .inl (cA 3, 60, .inr (.inl ab))), (h 5, .inl (cA 3, 60, .inr (.inl un))), (h 6, .inr (2, [.ref (h 7), .long sf, .long sl])), (h 7, .inl (cA 0, 60, .inl sv)), (h 8, .inl (cA 4, 10, .inr (.inr (.inr (.inr acts)))))]) (va_runV (As := [.int (nI L)]) (rest := []) ⟨hx, hb, hml, hown, hts⟩ (k_op l D cA s.heap.size (g 0) (g 1) (g 2) (g 3) (g 4) (g 5) (K.1 0) (K.1 1) (nI (sx_dN α a)) (sx_bI (sx_fb α 12 a)) (sx_bI (sx_fb α 14 a)) (sx_bI (sx_fb α 13 a)) (sx_oN α a) (α 7 a) (K.1 2) (nI (sx_tN α a)) (K.2 0) (K.1 3) (K.2 1) (K.2 2) L (by omega) (by omega)) (cwV 1 hts (sx_GV wd_270 wd_271 wd_272 wd_6 wd_273) rfl rfl rfl (by decide +kernel) ⟨Nat.le_of_ble_eq_true rfl, Nat.le_of_ble_eq_true rfl⟩) (sx_preVw hK hPc hDc (va_recv hK.1 hPc (ci := 0) (q0 := 0) rfl rfl)) rfl rfl hl.1 rfl (lv_room (Nat.le_of_ble_eq_true rfl)) d_X_link_42 ⟨Nat.le_of_ble_eq_true rfl, Nat.le_of_ble_eq_true rfl⟩) hP hD hS hA [9, 10, 11, 12, 13, 14] [0, 1, 2, 3, 4, 5, 6, 7, 8] rfl rfl (by decide) (by decide) (fun r_10 u_11 H locs hr_9 hP hD hS => ?_)
          have hP : va_P D vwCl (wXA cA h g (nI L) (nI na) (sx_bI sb) (nI n) (α 1) (α 2) ab un sv sf sl acts (K.1 0) (K.1 1) (nI (sx_dN α a)) (sx_bI (sx_fb α 12 a)) (sx_bI (sx_fb α 14 a)) (sx_bI (sx_fb α 13 a)) (nI (sx_oN α a + 1)) (α 7 a) (K.1 2) (nI (sx_tN α a)) (K.2 0) (K.1 3) (K.2 1) (K.2 2)) H := hP.sub [0, 1, 2, 3, 4, 5, 6, 7, 8, 9, 10, 11, 12, 13, 14] rfl
          have hD : va_D A (wXA cA h g (nI L) (nI na) (sx_bI sb) (nI n) (α 1) (α 2) ab un sv sf sl acts (K.1 0) (K.1 1) (nI (sx_dN α a)) (sx_bI (sx_fb α 12 a)) (sx_bI (sx_fb α 14 a)) (sx_bI (sx_fb α 13 a)) (nI (sx_oN α a + 1)) (α 7 a) (K.1 2) (nI (sx_tN α a)) (K.2 0) (K.1 3) (K.2 1) (K.2 2)) := hD.sub [0, 1, 2, 3, 4, 5, 6, 7, 8, 9, 10, 11, 12, 13, 14] (by decide) rfl
          subst hr_9
          refine lv_if_ne (tgt := 51) hx hb d_X_link_45 (by decide) (fun c_12 => ?_) (fun c_12 => ?_)
          · refine lv_aload_n hx hb d_X_link_51 rfl (lv_at hl 1 rfl) ?_
            refine lv_aload hx hb d_X_link_52 (lv_at hl 0 rfl) ?_
            refine vp_callSl (va_runV (As := [.ref (g 0)]) (rest := []) ⟨hx, hb, hml, hown, hts⟩ (k_wr l D cA h g (nI L) (nI na) (sx_bI sb) n α ab un sv sf sl acts a (K.1 0) (K.1 1) (sx_bI (sx_fb α 12 a)) (sx_bI (sx_fb α 14 a)) (sx_bI (sx_fb α 13 a)) (nI (sx_oN α a + 1)) (α 7 a) (K.1 2) (nI (sx_tN α a)) (K.2 0) (K.1 3) (K.2 1) (K.2 2) na L hI ha hR hDO) (cwV 1 hts (sx_GV wd_288 wd_290 ws_6 wd_1 wd_291) rfl rfl rfl (by decide +kernel) ⟨Nat.le_of_ble_eq_true rfl, Nat.le_of_ble_eq_true rfl⟩) (sx_preV hK hP (va_recv hK.1 hP (ci := 3) (q0 := 0) rfl rfl)) rfl rfl hl.1 rfl (lv_room (Nat.le_of_ble_eq_true rfl)) d_X_link_54 ⟨Nat.le_of_ble_eq_true rfl, Nat.le_of_ble_eq_true rfl⟩).run (fun r_14 hr_13 => ?_)
            refine lv_aload_n hx hb d_X_link_57 rfl (lv_at hl 1 rfl) ?_
            refine lv_aload hx hb d_X_link_58 (lv_at hl 0 rfl) ?_
            refine lv_iconst (v := nI 0) hx hb d_X_link_60 (by decide +kernel) ?_
            refine vp_callSl (va_runV (As := [.ref (g 0), .int (nI 0)]) (rest := [.long r_14]) ⟨hx, hb, hml, hown, hts⟩ (k_underD l D cA h g (nI L) (nI na) (sx_bI sb) n α ab un sv sf sl acts a (K.1 0) (K.1 1) (sx_bI (sx_fb α 12 a)) (sx_bI (sx_fb α 14 a)) (sx_bI (sx_fb α 13 a)) (nI (sx_oN α a + 1)) (α 7 a) (K.1 2) (nI (sx_tN α a)) (K.2 0) (K.1 3) (K.2 1) (K.2 2) na L hI ha hR hDO false) (cwV 2 hts (sx_GV wd_245 wd_247 ws_3 wd_1 wd_248) rfl rfl rfl (by decide +kernel) ⟨Nat.le_of_ble_eq_true rfl, Nat.le_of_ble_eq_true rfl⟩) (sx_preV hK hP (va_recv hK.1 hP (ci := 3) (q0 := 0) rfl rfl)) rfl rfl hl.1 rfl (lv_room (Nat.le_of_ble_eq_true rfl)) d_X_link_61 ⟨Nat.le_of_ble_eq_true rfl, Nat.le_of_ble_eq_true rfl⟩).run (fun r_16 hr_15 => ?_)
            refine lv_lor hx hb d_X_link_64 ?_
            refine lv_lstore (lv' := [(5, .long (r_14 ||| r_16)), (4, .ref (g 0)), (0, .ref (h 0)), (1, .int (nI a)), (2, .int (nI j)), (3, .int (nI q))]) hx hb d_X_link_65 hl (by decide) rfl (fun ls hl => ?_)
            refine lv_lload hx hb d_X_link_67 (lv_at hl 0 rfl) ?_
            refine lv_iload_n hx hb d_X_link_69 rfl (lv_at hl 5 rfl) ?_
            refine vp_callSi (va_runS (As := [.long (r_14 ||| r_16), .int (nI q)]) (rest := []) ⟨hx, hb, hml, hown, hts⟩ (k_holds l D cA (r_14 ||| r_16) q (by omega)) (va_cwS 2 hts (sx_GS wd_220 wd_109 wd_1 wd_110) rfl rfl rfl (by decide +kernel) ⟨Nat.le_of_ble_eq_true rfl, Nat.le_of_ble_eq_true rfl⟩) (sx_preS hK (sx_P0 : va_P D vwCl [] H)) rfl rfl hl.1 rfl (lv_room (Nat.le_of_ble_eq_true rfl)) d_X_link_70 ⟨Nat.le_of_ble_eq_true rfl, Nat.le_of_ble_eq_true rfl⟩).run (fun r_18 hr_17 => ?_)
            subst hr_17
            refine lv_if_eq (tgt := 86) hx hb d_X_link_73 (by decide) (fun c_19 => ?_) (fun c_19 => ?_)
            · have w73 : (sx_isW n α a q || sx_isD α a false q) = false := by have z := sx_bI0 c_19; rw [sx_bt_or, hr_13 q (by omega), hr_15 q (by omega), decide_eq_true hq, Bool.true_and, Bool.true_and] at z; exact z
              refine lv_aload_n hx hb d_X_link_86 rfl (lv_at hl 2 rfl) ?_
              refine lv_aload hx hb d_X_link_87 (lv_at hl 1 rfl) ?_
              refine sx_calli (wr := []) (va_runV (As := [.ref (g 0)]) (rest := []) ⟨hx, hb, hml, hown, hts⟩ (k_refuse l D cA H.size h g (nI L) (nI na) sb (nI n) (α 1) (α 2) ab un sv sf sl acts (K.1 0) (K.1 1) (nI (sx_dN α a)) (sx_bI (sx_fb α 12 a)) (sx_bI (sx_fb α 14 a)) (sx_bI (sx_fb α 13 a)) (nI (sx_oN α a + 1)) (α 7 a) (K.1 2) (nI (sx_tN α a)) (K.2 0) (K.1 3) (K.2 1) (K.2 2)) (cwV 1 hts (sx_GV wd_297 wd_299 ws_8 wd_1 wd_300) rfl rfl rfl (by decide +kernel) ⟨Nat.le_of_ble_eq_true rfl, Nat.le_of_ble_eq_true rfl⟩) (sx_preVw hK hP hD (va_recv hK.1 hP (ci := 3) (q0 := 0) rfl rfl)) rfl rfl hl.1 rfl (lv_room (Nat.le_of_ble_eq_true rfl)) d_X_link_89 ⟨Nat.le_of_ble_eq_true rfl, Nat.le_of_ble_eq_true rfl⟩) hP hD hS hA [0, 1, 2, 3, 4, 5, 6, 7, 8, 9, 10, 11, 12, 13, 14] [] rfl rfl (by decide) (by decide) (fun r_21 u_22 H locs hr_20 hP hD hS => ?_)
              have hP : va_P D vwCl (wXA cA h g (nI L) (nI na) (sx_bI sb) (nI n) (α 1) (α 2) ab un sv sf sl acts (K.1 0) (K.1 1) (nI (sx_dN α a)) (sx_bI (sx_fb α 12 a)) (sx_bI (sx_fb α 14 a)) (bif sb then 1 else (sx_bI (sx_fb α 13 a))) (nI (sx_oN α a + 1)) ((α 7 a) + 1) (K.1 2) (nI (sx_tN α a)) (K.2 0) (K.1 3) (K.2 1) (K.2 2)) H := hP.sub [0, 1, 2, 3, 4, 5, 6, 7, 8, 9, 10, 11, 12, 13, 14] rfl
              have hD : va_D A (wXA cA h g (nI L) (nI na) (sx_bI sb) (nI n) (α 1) (α 2) ab un sv sf sl acts (K.1 0) (K.1 1) (nI (sx_dN α a)) (sx_bI (sx_fb α 12 a)) (sx_bI (sx_fb α 14 a)) (bif sb then 1 else (sx_bI (sx_fb α 13 a))) (nI (sx_oN α a + 1)) ((α 7 a) + 1) (K.1 2) (nI (sx_tN α a)) (K.2 0) (K.1 3) (K.2 1) (K.2 2)) := hD.sub [0, 1, 2, 3, 4, 5, 6, 7, 8, 9, 10, 11, 12, 13, 14] (by decide) rfl
              subst hr_20
              have hP9 : va_P D vwCl (wXAk cA h g (nI L) (nI na) (sx_bI sb) (nI n) (α 1) (α 2) ab un sv sf sl acts (sx_kA (K.1 0) (K.1 1) (nI (sx_dN α a)) (sx_bI (sx_fb α 12 a)) (sx_bI (sx_fb α 14 a)) (bif sb then 1 else (sx_bI (sx_fb α 13 a))) (nI (sx_oN α a + 1)) ((α 7 a) + 1) (K.1 2) (nI (sx_tN α a)) (K.2 0) (K.1 3) (K.2 1) (K.2 2))) H := hP
              have hD9 : va_D A (wXAk cA h g (nI L) (nI na) (sx_bI sb) (nI n) (α 1) (α 2) ab un sv sf sl acts (sx_kA (K.1 0) (K.1 1) (nI (sx_dN α a)) (sx_bI (sx_fb α 12 a)) (sx_bI (sx_fb α 14 a)) (bif sb then 1 else (sx_bI (sx_fb α 13 a))) (nI (sx_oN α a + 1)) ((α 7 a) + 1) (K.1 2) (nI (sx_tN α a)) (K.2 0) (K.1 3) (K.2 1) (K.2 2))) := hD
              exact W.iret (v := nI 0) hx hb hr (fun t ht hW => ⟨⟨nI 0, (sx_kA (K.1 0) (K.1 1) (nI (sx_dN α a)) (sx_bI (sx_fb α 12 a)) (sx_bI (sx_fb α 14 a)) (bif sb then 1 else (sx_bI (sx_fb α 13 a))) (nI (sx_oN α a + 1)) ((α 7 a) + 1) (K.1 2) (nI (sx_tN α a)) (K.2 0) (K.1 3) (K.2 1) (K.2 2)), rfl, (sx_fin2 (sx_do_ref (sb := sb) (v := -1 - nI q) (sx_ok_t hth (sx_has_nI (by omega) hj) (sx_has_nI (by omega) hq)) hne (by unfold sx_lkO; rw [nI_clamp (n := j) (by omega), nI_clamp (n := q) (by omega), w73]; simp)) rfl (sx_RA_of hDO htp htsb hW0 e4 e12 e14 (sx_ref_br e13 rfl) (sx_ref_op e6) sx_ref_rf e8)), by rw [ht]; exact hP9, by rw [hAe]; exact hD9⟩, hS.F ht⟩) hS.2.2 d_X_link_92
            · have w73 : (sx_isW n α a q || sx_isD α a false q) = true := by have z := sx_bIn c_19; rw [sx_bt_or, hr_13 q (by omega), hr_15 q (by omega), decide_eq_true hq, Bool.true_and, Bool.true_and] at z; exact z
              refine lv_aload_n hx hb d_X_link_76 rfl (lv_at hl 2 rfl) ?_
              refine lv_aload hx hb d_X_link_77 (lv_at hl 1 rfl) ?_
              refine lv_iload_n hx hb d_X_link_79 rfl (lv_at hl 4 rfl) ?_
              refine vp_callSi (va_runV (As := [.ref (g 0), .int (nI j)]) (rest := []) ⟨hx, hb, hml, hown, hts⟩ (k_can l D cA h g (nI L) (nI na) (sx_bI sb) n α ab un sv sf sl acts a (K.1 0) (K.1 1) (sx_bI (sx_fb α 12 a)) (sx_bI (sx_fb α 14 a)) (sx_bI (sx_fb α 13 a)) (nI (sx_oN α a + 1)) (α 7 a) (K.1 2) (nI (sx_tN α a)) (K.2 0) (K.1 3) (K.2 1) (K.2 2) na L hI ha hR hDO hW0 j (by omega)) (cwV 2 hts (sx_GV wd_284 wd_286 ws_5 wd_1 wd_287) rfl rfl rfl (by decide +kernel) ⟨Nat.le_of_ble_eq_true rfl, Nat.le_of_ble_eq_true rfl⟩) (sx_preV hK hP (va_recv hK.1 hP (ci := 3) (q0 := 0) rfl rfl)) rfl rfl hl.1 rfl (lv_room (Nat.le_of_ble_eq_true rfl)) d_X_link_80 ⟨Nat.le_of_ble_eq_true rfl, Nat.le_of_ble_eq_true rfl⟩).run (fun r_24 hr_23 => ?_)
              subst hr_23
              refine lv_if_ne (tgt := 93) hx hb d_X_link_83 (by decide) (fun c_25 => ?_) (fun c_25 => ?_)
              · have c_25 : (sx_isW n α a j && !sx_inW n α a j) = true := sx_bIn c_25
                refine lv_aload hx hb d_X_link_93 (lv_at hl 1 rfl) ?_
                refine va_getN (D := D) (ci := 0) (v := .ref (g 3)) (C := R_A) (T := T_A) (N := 12) hx hb hts iw_A hown hK.1 hP 9 rfl rfl 3 (by decide) (va_Nw.use rfl (hK.2.1 _ wd_166)) (fun _ h9 => h9) rfl d_X_link_95 ?_
                refine lv_iload_n hx hb d_X_link_98 rfl (lv_at hl 4 rfl) ?_
                refine lv_iload_n hx hb d_X_link_99 rfl (lv_at hl 5 rfl) ?_
                have hPc : va_P D vwCl (wS cA (g 3) (g 4) (K.1 3) (K.2 1) (K.2 2)) H := hP.sub [12, 13] rfl
                have hDc : va_D A (wS cA (g 3) (g 4) (K.1 3) (K.2 1) (K.2 2)) := hD.sub [12, 13] (by decide) rfl
                refine sx_callv (wr := [(h 0, .inr (3, [.int (nI L), .ref (h 1), .ref (h 6), .ref (h 8), .int (nI na), .int (sx_bI sb)])), (h 1, .inr (1, [.ref (h 2), .ref (h 3), .ref (h 4), .ref (h 5), .int (nI n)])), (h 2, .inl (cA 0, 60, .inl (α 1))), (h 3, .inl (cA 2, 60, .inl (α 2))), (h 4, .inl (cA 3, 60, .inr (.inl ab))), (h 5, .inl (cA 3, 60, .inr (.inl un))), (h 6, .inr (2, [.ref (h 7), .long sf, .long sl])), (h 7, .inl (cA 0, 60, .inl sv)), (h 8, .inl (cA 4, 10, .inr (.inr (.inr (.inr acts))))), (g 0, .inr (0, [.ref (g 1), .ref (g 2), .int (nI (sx_dN α a)), .ref (g 3), .int (sx_bI (sx_fb α 12 a)), .int (sx_bI (sx_fb α 14 a)), .int (sx_bI (sx_fb α 13 a)), .int (nI (sx_oN α a + 1)), .int (α 7 a), .ref (g 5), .int (nI (sx_tN α a)), .long (K.2 0)])), (g 1, .inl (cA 0, 12, .inl (K.1 0))), (g 2, .inl (cA 1, 12, .inl (K.1 1))), (g 5, .inl (cA 0, 60, .inl (K.1 2)))]) (va_runV (As := [.int (nI j), .int (nI q)]) (rest := []) ⟨hx, hb, hml, hown, hts⟩ (k_lnk l D cA H.size (g 3) (g 4) (K.1 3) (K.2 1) (K.2 2) j (by omega) q (by omega)) (cwV 2 hts (sx_GV wd_305 wd_306 wd_307 wd_4 wd_308) rfl rfl rfl (by decide +kernel) ⟨Nat.le_of_ble_eq_true rfl, Nat.le_of_ble_eq_true rfl⟩) (sx_preVw hK hPc hDc (va_recv hK.1 hPc (ci := 2) (q0 := 0) rfl rfl)) rfl rfl hl.1 rfl (lv_room (Nat.le_of_ble_eq_true rfl)) d_X_link_100 ⟨Nat.le_of_ble_eq_true rfl, Nat.le_of_ble_eq_true rfl⟩) hP hD hS hA [12, 13] [0, 1, 2, 3, 4, 5, 6, 7, 8, 9, 10, 11, 14] rfl rfl (by decide) (by decide) (fun u_28 H locs hr_26 hP hD hS => ?_)
                have hP : va_P D vwCl (wXA cA h g (nI L) (nI na) (sx_bI sb) (nI n) (α 1) (α 2) ab un sv sf sl acts (K.1 0) (K.1 1) (nI (sx_dN α a)) (sx_bI (sx_fb α 12 a)) (sx_bI (sx_fb α 14 a)) (sx_bI (sx_fb α 13 a)) (nI (sx_oN α a + 1)) (α 7 a) (K.1 2) (nI (sx_tN α a)) (K.2 0) (upd (K.1 3) j (nI q)) ((K.2 1) &&& (sx_on j ^^^ (-1))) (((K.2 2) &&& (sx_on j ^^^ (-1))) ||| sx_on j)) H := hP.sub [0, 1, 2, 3, 4, 5, 6, 7, 8, 9, 10, 11, 13, 14, 12] rfl
                have hD : va_D A (wXA cA h g (nI L) (nI na) (sx_bI sb) (nI n) (α 1) (α 2) ab un sv sf sl acts (K.1 0) (K.1 1) (nI (sx_dN α a)) (sx_bI (sx_fb α 12 a)) (sx_bI (sx_fb α 14 a)) (sx_bI (sx_fb α 13 a)) (nI (sx_oN α a + 1)) (α 7 a) (K.1 2) (nI (sx_tN α a)) (K.2 0) (upd (K.1 3) j (nI q)) ((K.2 1) &&& (sx_on j ^^^ (-1))) (((K.2 2) &&& (sx_on j ^^^ (-1))) ||| sx_on j)) := hD.sub [0, 1, 2, 3, 4, 5, 6, 7, 8, 9, 10, 11, 13, 14, 12] (by decide) rfl
                refine lv_iconst (v := nI 1) hx hb d_X_link_103 (by decide +kernel) ?_
                have hP9 : va_P D vwCl (wXAk cA h g (nI L) (nI na) (sx_bI sb) (nI n) (α 1) (α 2) ab un sv sf sl acts (sx_kA (K.1 0) (K.1 1) (nI (sx_dN α a)) (sx_bI (sx_fb α 12 a)) (sx_bI (sx_fb α 14 a)) (sx_bI (sx_fb α 13 a)) (nI (sx_oN α a + 1)) (α 7 a) (K.1 2) (nI (sx_tN α a)) (K.2 0) (upd (K.1 3) j (nI q)) ((K.2 1) &&& (sx_on j ^^^ (-1))) (((K.2 2) &&& (sx_on j ^^^ (-1))) ||| sx_on j))) H := hP
                have hD9 : va_D A (wXAk cA h g (nI L) (nI na) (sx_bI sb) (nI n) (α 1) (α 2) ab un sv sf sl acts (sx_kA (K.1 0) (K.1 1) (nI (sx_dN α a)) (sx_bI (sx_fb α 12 a)) (sx_bI (sx_fb α 14 a)) (sx_bI (sx_fb α 13 a)) (nI (sx_oN α a + 1)) (α 7 a) (K.1 2) (nI (sx_tN α a)) (K.2 0) (upd (K.1 3) j (nI q)) ((K.2 1) &&& (sx_on j ^^^ (-1))) (((K.2 2) &&& (sx_on j ^^^ (-1))) ||| sx_on j))) := hD
                exact W.iret (v := nI 1) hx hb hr (fun t ht hW => ⟨⟨nI 1, (sx_kA (K.1 0) (K.1 1) (nI (sx_dN α a)) (sx_bI (sx_fb α 12 a)) (sx_bI (sx_fb α 14 a)) (sx_bI (sx_fb α 13 a)) (nI (sx_oN α a + 1)) (α 7 a) (K.1 2) (nI (sx_tN α a)) (K.2 0) (upd (K.1 3) j (nI q)) ((K.2 1) &&& (sx_on j ^^^ (-1))) (((K.2 2) &&& (sx_on j ^^^ (-1))) ||| sx_on j)), rfl, (sx_fin2 (sx_do_yes (sb := sb) (v := -1 - nI q) (by omega) (sx_ok_t hth (sx_has_nI (by omega) hj) (sx_has_nI (by omega) hq)) hne (by unfold sx_lkO; rw [nI_clamp (n := j) (by omega), nI_clamp (n := q) (by omega), c_25, w73]; rfl)) rfl (sx_RA_w hDO htp htsb (sx_W_link hW0 (by omega) (by omega)) e4 e12 e14 e13 e6 rfl e8)), by rw [ht]; exact hP9, by rw [hAe]; exact hD9⟩, hS.F ht⟩) hS.2.2 d_X_link_104
              · have c_25 : (sx_isW n α a j && !sx_inW n α a j) = false := sx_bI0 c_25
                refine lv_aload_n hx hb d_X_link_86 rfl (lv_at hl 2 rfl) ?_
                refine lv_aload hx hb d_X_link_87 (lv_at hl 1 rfl) ?_
                refine sx_calli (wr := []) (va_runV (As := [.ref (g 0)]) (rest := []) ⟨hx, hb, hml, hown, hts⟩ (k_refuse l D cA H.size h g (nI L) (nI na) sb (nI n) (α 1) (α 2) ab un sv sf sl acts (K.1 0) (K.1 1) (nI (sx_dN α a)) (sx_bI (sx_fb α 12 a)) (sx_bI (sx_fb α 14 a)) (sx_bI (sx_fb α 13 a)) (nI (sx_oN α a + 1)) (α 7 a) (K.1 2) (nI (sx_tN α a)) (K.2 0) (K.1 3) (K.2 1) (K.2 2)) (cwV 1 hts (sx_GV wd_297 wd_299 ws_8 wd_1 wd_300) rfl rfl rfl (by decide +kernel) ⟨Nat.le_of_ble_eq_true rfl, Nat.le_of_ble_eq_true rfl⟩) (sx_preVw hK hP hD (va_recv hK.1 hP (ci := 3) (q0 := 0) rfl rfl)) rfl rfl hl.1 rfl (lv_room (Nat.le_of_ble_eq_true rfl)) d_X_link_89 ⟨Nat.le_of_ble_eq_true rfl, Nat.le_of_ble_eq_true rfl⟩) hP hD hS hA [0, 1, 2, 3, 4, 5, 6, 7, 8, 9, 10, 11, 12, 13, 14] [] rfl rfl (by decide) (by decide) (fun r_30 u_31 H locs hr_29 hP hD hS => ?_)
                have hP : va_P D vwCl (wXA cA h g (nI L) (nI na) (sx_bI sb) (nI n) (α 1) (α 2) ab un sv sf sl acts (K.1 0) (K.1 1) (nI (sx_dN α a)) (sx_bI (sx_fb α 12 a)) (sx_bI (sx_fb α 14 a)) (bif sb then 1 else (sx_bI (sx_fb α 13 a))) (nI (sx_oN α a + 1)) ((α 7 a) + 1) (K.1 2) (nI (sx_tN α a)) (K.2 0) (K.1 3) (K.2 1) (K.2 2)) H := hP.sub [0, 1, 2, 3, 4, 5, 6, 7, 8, 9, 10, 11, 12, 13, 14] rfl
                have hD : va_D A (wXA cA h g (nI L) (nI na) (sx_bI sb) (nI n) (α 1) (α 2) ab un sv sf sl acts (K.1 0) (K.1 1) (nI (sx_dN α a)) (sx_bI (sx_fb α 12 a)) (sx_bI (sx_fb α 14 a)) (bif sb then 1 else (sx_bI (sx_fb α 13 a))) (nI (sx_oN α a + 1)) ((α 7 a) + 1) (K.1 2) (nI (sx_tN α a)) (K.2 0) (K.1 3) (K.2 1) (K.2 2)) := hD.sub [0, 1, 2, 3, 4, 5, 6, 7, 8, 9, 10, 11, 12, 13, 14] (by decide) rfl
                subst hr_29
                have hP9 : va_P D vwCl (wXAk cA h g (nI L) (nI na) (sx_bI sb) (nI n) (α 1) (α 2) ab un sv sf sl acts (sx_kA (K.1 0) (K.1 1) (nI (sx_dN α a)) (sx_bI (sx_fb α 12 a)) (sx_bI (sx_fb α 14 a)) (bif sb then 1 else (sx_bI (sx_fb α 13 a))) (nI (sx_oN α a + 1)) ((α 7 a) + 1) (K.1 2) (nI (sx_tN α a)) (K.2 0) (K.1 3) (K.2 1) (K.2 2))) H := hP
                have hD9 : va_D A (wXAk cA h g (nI L) (nI na) (sx_bI sb) (nI n) (α 1) (α 2) ab un sv sf sl acts (sx_kA (K.1 0) (K.1 1) (nI (sx_dN α a)) (sx_bI (sx_fb α 12 a)) (sx_bI (sx_fb α 14 a)) (bif sb then 1 else (sx_bI (sx_fb α 13 a))) (nI (sx_oN α a + 1)) ((α 7 a) + 1) (K.1 2) (nI (sx_tN α a)) (K.2 0) (K.1 3) (K.2 1) (K.2 2))) := hD
                exact W.iret (v := nI 0) hx hb hr (fun t ht hW => ⟨⟨nI 0, (sx_kA (K.1 0) (K.1 1) (nI (sx_dN α a)) (sx_bI (sx_fb α 12 a)) (sx_bI (sx_fb α 14 a)) (bif sb then 1 else (sx_bI (sx_fb α 13 a))) (nI (sx_oN α a + 1)) ((α 7 a) + 1) (K.1 2) (nI (sx_tN α a)) (K.2 0) (K.1 3) (K.2 1) (K.2 2)), rfl, (sx_fin2 (sx_do_ref (sb := sb) (v := -1 - nI q) (sx_ok_t hth (sx_has_nI (by omega) hj) (sx_has_nI (by omega) hq)) hne (by unfold sx_lkO; rw [nI_clamp (n := j) (by omega), c_25]; rfl)) rfl (sx_RA_of hDO htp htsb hW0 e4 e12 e14 (sx_ref_br e13 rfl) (sx_ref_op e6) sx_ref_rf e8)), by rw [ht]; exact hP9, by rw [hAe]; exact hD9⟩, hS.F ht⟩) hS.2.2 d_X_link_92
          · exact absurd c_12 (by decide)
        · have hoE : sx_oN α a = L := by omega
          have heq : α 6 a = nI L := by rw [← e6, hoE]
          have hPc : va_P D vwCl (wA cA (g 0) (g 1) (g 2) (g 3) (g 4) (g 5) (K.1 0) (K.1 1) (nI (sx_dN α a)) (sx_bI (sx_fb α 12 a)) (sx_bI (sx_fb α 14 a)) (sx_bI (sx_fb α 13 a)) (nI (sx_oN α a)) (α 7 a) (K.1 2) (nI (sx_tN α a)) (K.2 0) (K.1 3) (K.2 1) (K.2 2)) s.heap := hP.sub [9, 10, 11, 12, 13, 14] rfl
          have hDc : va_D A (wA cA (g 0) (g 1) (g 2) (g 3) (g 4) (g 5) (K.1 0) (K.1 1) (nI (sx_dN α a)) (sx_bI (sx_fb α 12 a)) (sx_bI (sx_fb α 14 a)) (sx_bI (sx_fb α 13 a)) (nI (sx_oN α a)) (α 7 a) (K.1 2) (nI (sx_tN α a)) (K.2 0) (K.1 3) (K.2 1) (K.2 2)) := hD.sub [9, 10, 11, 12, 13, 14] (by decide) rfl
          refine sx_calli (wr := [(h 0, .inr (3, [.int (nI L), .ref (h 1), .ref (h 6), .ref (h 8), .int (nI na), .int (sx_bI sb)])), (h 1, .inr (1, [.ref (h 2), .ref (h 3), .ref (h 4), .ref (h 5), .int (nI n)])), (h 2, .inl (cA 0, 60, .inl (α 1))), (h 3, .inl (cA 2, 60, .inl (α 2))), (h 4, .inl (cA 3, 60, .inr (.inl ab))), (h 5, .inl (cA 3, 60, .inr (.inl un))), (h 6, .inr (2, [.ref (h 7), .long sf, .long sl])), (h 7, .inl (cA 0, 60, .inl sv)), (h 8, .inl (cA 4, 10, .inr (.inr (.inr (.inr acts)))))]) (va_runV (As := [.int (nI L)]) (rest := []) ⟨hx, hb, hml, hown, hts⟩ (k_opF l D cA s.heap.size (g 0) (g 1) (g 2) (g 3) (g 4) (g 5) (K.1 0) (K.1 1) (nI (sx_dN α a)) (sx_bI (sx_fb α 12 a)) (sx_bI (sx_fb α 14 a)) (sx_bI (sx_fb α 13 a)) (sx_oN α a) (α 7 a) (K.1 2) (nI (sx_tN α a)) (K.2 0) (K.1 3) (K.2 1) (K.2 2) L hoE (by omega)) (cwV 1 hts (sx_GV wd_270 wd_271 wd_272 wd_6 wd_273) rfl rfl rfl (by decide +kernel) ⟨Nat.le_of_ble_eq_true rfl, Nat.le_of_ble_eq_true rfl⟩) (sx_preVw hK hPc hDc (va_recv hK.1 hPc (ci := 0) (q0 := 0) rfl rfl)) rfl rfl hl.1 rfl (lv_room (Nat.le_of_ble_eq_true rfl)) d_X_link_42 ⟨Nat.le_of_ble_eq_true rfl, Nat.le_of_ble_eq_true rfl⟩) hP hD hS hA [9, 10, 11, 12, 13, 14] [0, 1, 2, 3, 4, 5, 6, 7, 8] rfl rfl (by decide) (by decide) (fun r_33 u_34 H locs hr_32 hP hD hS => ?_)
          have hP : va_P D vwCl (wXA cA h g (nI L) (nI na) (sx_bI sb) (nI n) (α 1) (α 2) ab un sv sf sl acts (K.1 0) (K.1 1) (nI (sx_dN α a)) (sx_bI (sx_fb α 12 a)) (sx_bI (sx_fb α 14 a)) (nI 1) (nI (sx_oN α a)) (α 7 a) (K.1 2) (nI (sx_tN α a)) (K.2 0) (K.1 3) (K.2 1) (K.2 2)) H := hP.sub [0, 1, 2, 3, 4, 5, 6, 7, 8, 9, 10, 11, 12, 13, 14] rfl
          have hD : va_D A (wXA cA h g (nI L) (nI na) (sx_bI sb) (nI n) (α 1) (α 2) ab un sv sf sl acts (K.1 0) (K.1 1) (nI (sx_dN α a)) (sx_bI (sx_fb α 12 a)) (sx_bI (sx_fb α 14 a)) (nI 1) (nI (sx_oN α a)) (α 7 a) (K.1 2) (nI (sx_tN α a)) (K.2 0) (K.1 3) (K.2 1) (K.2 2)) := hD.sub [0, 1, 2, 3, 4, 5, 6, 7, 8, 9, 10, 11, 12, 13, 14] (by decide) rfl
          subst hr_32
          refine lv_if_ne (tgt := 51) hx hb d_X_link_45 (by decide) (fun c_35 => ?_) (fun c_35 => ?_)
          · exact absurd c_35 (by decide)
          · refine lv_bipush (v := (-9)) hx hb d_X_link_48 (by decide +kernel) ?_
            have hP9 : va_P D vwCl (wXAk cA h g (nI L) (nI na) (sx_bI sb) (nI n) (α 1) (α 2) ab un sv sf sl acts (sx_kA (K.1 0) (K.1 1) (nI (sx_dN α a)) (sx_bI (sx_fb α 12 a)) (sx_bI (sx_fb α 14 a)) (nI 1) (nI (sx_oN α a)) (α 7 a) (K.1 2) (nI (sx_tN α a)) (K.2 0) (K.1 3) (K.2 1) (K.2 2))) H := hP
            have hD9 : va_D A (wXAk cA h g (nI L) (nI na) (sx_bI sb) (nI n) (α 1) (α 2) ab un sv sf sl acts (sx_kA (K.1 0) (K.1 1) (nI (sx_dN α a)) (sx_bI (sx_fb α 12 a)) (sx_bI (sx_fb α 14 a)) (nI 1) (nI (sx_oN α a)) (α 7 a) (K.1 2) (nI (sx_tN α a)) (K.2 0) (K.1 3) (K.2 1) (K.2 2))) := hD
            exact W.iret (v := (-9)) hx hb hr (fun t ht hW => ⟨⟨(-9), (sx_kA (K.1 0) (K.1 1) (nI (sx_dN α a)) (sx_bI (sx_fb α 12 a)) (sx_bI (sx_fb α 14 a)) (nI 1) (nI (sx_oN α a)) (α 7 a) (K.1 2) (nI (sx_tN α a)) (K.2 0) (K.1 3) (K.2 1) (K.2 2)), rfl, (sx_fin2 (sx_do_lim (sb := sb) (v := -1 - nI q) (sx_ok_t hth (sx_has_nI (by omega) hj) (sx_has_nI (by omega) hq)) heq) rfl (sx_RA_of hDO htp htsb hW0 e4 e12 e14 (by rw [sx_at]; rfl) e6 rfl e8)), by rw [ht]; exact hP9, by rw [hAe]; exact hD9⟩, hS.F ht⟩) hS.2.2 d_X_link_50
      · have c_8 : (sx_has n to) = false := sx_bI0 c_8
        refine lv_iconst (v := (-1)) hx hb d_X_link_34 (by decide +kernel) ?_
        have hP9 : va_P D vwCl (wXAk cA h g (nI L) (nI na) (sx_bI sb) (nI n) (α 1) (α 2) ab un sv sf sl acts (sx_kA (K.1 0) (K.1 1) (nI (sx_dN α a)) (sx_bI (sx_fb α 12 a)) (sx_bI (sx_fb α 14 a)) (sx_bI (sx_fb α 13 a)) (nI (sx_oN α a)) (α 7 a) (K.1 2) (nI (sx_tN α a)) (K.2 0) (K.1 3) (K.2 1) (K.2 2))) s.heap := hP
        have hD9 : va_D A (wXAk cA h g (nI L) (nI na) (sx_bI sb) (nI n) (α 1) (α 2) ab un sv sf sl acts (sx_kA (K.1 0) (K.1 1) (nI (sx_dN α a)) (sx_bI (sx_fb α 12 a)) (sx_bI (sx_fb α 14 a)) (sx_bI (sx_fb α 13 a)) (nI (sx_oN α a)) (α 7 a) (K.1 2) (nI (sx_tN α a)) (K.2 0) (K.1 3) (K.2 1) (K.2 2))) := hD
        exact W.iret (v := (-1)) hx hb hr (fun t ht hW => ⟨⟨(-1), (sx_kA (K.1 0) (K.1 1) (nI (sx_dN α a)) (sx_bI (sx_fb α 12 a)) (sx_bI (sx_fb α 14 a)) (sx_bI (sx_fb α 13 a)) (nI (sx_oN α a)) (α 7 a) (K.1 2) (nI (sx_tN α a)) (K.2 0) (K.1 3) (K.2 1) (K.2 2)), rfl, (sx_fin2 (sx_do_no (sb := sb) (v := -1 - to) (sx_ok_q c_8)) rfl (sx_RA_of hDO htp htsb hW0 e4 e12 e14 e13 e6 rfl e8)), by rw [ht]; exact hP9, by rw [hAe]; exact hD9⟩, hS.F ht⟩) hS.2.2 d_X_link_35
  · refine va_csq (va_runV (As := [.int (nI a)]) (rest := []) ⟨hx, hb, hml, hown, hts⟩ (k_runN l D cA h g (nI L) na (sx_bI sb) (nI n) (α 1) (α 2) ab un sv sf sl acts (K.1 0) (K.1 1) (nI (sx_dN α a)) (sx_fb α 12 a) (sx_bI (sx_fb α 14 a)) (sx_bI (sx_fb α 13 a)) (nI (sx_oN α a)) (α 7 a) (K.1 2) (nI (sx_tN α a)) (K.2 0) (K.1 3) (K.2 1) (K.2 2) a (by omega) (by omega) hacts hth) (cwV 1 hts (sx_GV wd_266 wd_268 ws_4 wd_1 wd_269) rfl rfl rfl (by decide +kernel) ⟨Nat.le_of_ble_eq_true rfl, Nat.le_of_ble_eq_true rfl⟩) (sx_preV hK hP (va_recv hK.1 hP (ci := 3) (q0 := 0) rfl rfl)) rfl rfl hl.1 rfl (lv_room (Nat.le_of_ble_eq_true rfl)) d_X_link_2 ⟨Nat.le_of_ble_eq_true rfl, Nat.le_of_ble_eq_true rfl⟩).run (fun r_37 hr_36 => ?_)
    subst hr_36
    refine sx_asv (y := .null) rfl ?_
    refine lv_astoreN (lv' := [(4, .null), (0, .ref (h 0)), (1, .int (nI a)), (2, .int p), (3, .int to)]) hx hb d_X_link_5 hl (by decide) rfl (fun ls hl => ?_)
    refine lv_aloadN hx hb d_X_link_7 (lv_at hl 0 rfl) ?_
    refine lv_ifnullN (tgt := 34) hx hb d_X_link_9 (by decide) ?_
    refine lv_iconst (v := (-1)) hx hb d_X_link_34 (by decide +kernel) ?_
    have hP9 : va_P D vwCl (wXAk cA h g (nI L) (nI na) (sx_bI sb) (nI n) (α 1) (α 2) ab un sv sf sl acts (sx_kA (K.1 0) (K.1 1) (nI (sx_dN α a)) (sx_bI (sx_fb α 12 a)) (sx_bI (sx_fb α 14 a)) (sx_bI (sx_fb α 13 a)) (nI (sx_oN α a)) (α 7 a) (K.1 2) (nI (sx_tN α a)) (K.2 0) (K.1 3) (K.2 1) (K.2 2))) s.heap := hP
    have hD9 : va_D A (wXAk cA h g (nI L) (nI na) (sx_bI sb) (nI n) (α 1) (α 2) ab un sv sf sl acts (sx_kA (K.1 0) (K.1 1) (nI (sx_dN α a)) (sx_bI (sx_fb α 12 a)) (sx_bI (sx_fb α 14 a)) (sx_bI (sx_fb α 13 a)) (nI (sx_oN α a)) (α 7 a) (K.1 2) (nI (sx_tN α a)) (K.2 0) (K.1 3) (K.2 1) (K.2 2))) := hD
    exact W.iret (v := (-1)) hx hb hr (fun t ht hW => ⟨⟨(-1), (sx_kA (K.1 0) (K.1 1) (nI (sx_dN α a)) (sx_bI (sx_fb α 12 a)) (sx_bI (sx_fb α 14 a)) (sx_bI (sx_fb α 13 a)) (nI (sx_oN α a)) (α 7 a) (K.1 2) (nI (sx_tN α a)) (K.2 0) (K.1 3) (K.2 1) (K.2 2)), rfl, (sx_fin2 (sx_do_no (sb := sb) (v := -1 - to) (sx_ok_th hth)) rfl (sx_RA_of hDO htp htsb hW0 e4 e12 e14 e13 e6 rfl e8)), by rw [ht]; exact hP9, by rw [hAe]; exact hD9⟩, hS.F ht⟩) hS.2.2 d_X_link_35
end
section
set_option maxHeartbeats 4000000 in
set_option maxRecDepth 100000 in
theorem k_remove (l : Launch) (D : va_G) (cA : Nat → ClassId) (sz : Nat) (h g : Nat → Nat) (n na L : Nat) (sb : Bool) (α : sx_A) (ab un : Nat → Int64) (sv : Nat → Int32) (sf sl : Int64) (acts : Nat → Option Nat) (a : Nat) (K : sx_KA) (hI : sx_INV n na L α) (ha : a < na) (hR : sx_RP n (α 1) ab un) (hS0 : sx_RW (α 3) sv sf sl) (hRA : sx_RA α a K) (hacts : acts a = some (g 0)) (p : Int32) : Met l y_X_remove w_X_remove ({ frames := 5, cells := 0, slots := 0, locals := 110 }) (sx_Pw D cA [.ref (h 0), .int (nI a), .int p] (wXAk cA h g (nI L) (nI na) (sx_bI sb) (nI n) (α 1) (α 2) ab un sv sf sl acts K) sz) (va_Qi (fun r (u : sx_KA) => r = sx_doA n L α a p 0 (sx_rmO n α a p) ∧ sx_RA (sx_do n L sb α a p 0 (sx_rmO n α a p) 0) a u) (sx_Bw D (wXAk cA h g (nI L) (nI na) (sx_bI sb) (nI n) (α 1) (α 2) ab un sv sf sl acts K) sz (fun u => wXAk cA h g (nI L) (nI na) (sx_bI sb) (nI n) (α 1) (α 2) ab un sv sf sl acts u)) (va_A (wXAk cA h g (nI L) (nI na) (sx_bI sb) (nI n) (α 1) (α 2) ab un sv sf sl acts K) sz)) 0 0 (va_A (wXAk cA h g (nI L) (nI na) (sx_bI sb) (nI n) (α 1) (α 2) ab un sv sf sl acts K) sz) := by
  refine Met.ofW (cc := b_X_remove) (maxL := 4) (ret := (some .int)) (by decide) rfl ?_
  intro pG eG s m args below meth cG s₁ B hml hv
  obtain ⟨rfl, hsz, hP, hK, hD0⟩ := hv
  have hx := B.exec
  have hb := B.bytes
  have hr := B.returns
  have hts0 := atoms_spec (ws := w_X_remove) B.pre
  have hts : ∀ w ∈ sx_gw, w.before _ s = true := fun w h => hts0 w (List.mem_cons_of_mem _ h)
  have hown : s.vm.findClass R_X = some m.cls := findClass_of_methodNamed B.named
  have hlocks := B.notSynchronized
  subst hsz
  have hD := hD0.self (sz := s.heap.size)
  generalize hAe : va_A (wXAk cA h g (nI L) (nI na) (sx_bI sb) (nI n) (α 1) (α 2) ab un sv sf sl acts K) s.heap.size = A at hD ⊢
  have hA : ∀ q : Nat, s.heap.size ≤ q → A q := fun q h => by rw [← hAe]; exact Or.inr h
  have hS : va_S A s.heap s.heap [] := va_S.rf
  have hl := lv_entry ([.ref (h 0), .int (nI a), .int p]) (n := 4) (Nat.le_of_ble_eq_true rfl)
  rw [lg_entry_eq]
  generalize (lg_sl ([.ref (h 0), .int (nI a), .int p]) ++ List.replicate (4 - (lg_sl ([.ref (h 0), .int (nI a), .int p])).length) Slot.unset).toArray = ls at hl ⊢
  have hl : lv_has ls 4 [(0, .ref (h 0)), (1, .int (nI a)), (2, .int p)] := hl
  have hn31 := sx_INV_n hI
  have hn60 := hI.1.1.2
  have h1n := hI.1.1.1
  have hAc := sx_INV_A hI ha
  have hd12 := (sx_dN_ok hAc).1
  have hna := hI.1.2.1
  have hL5 := hI.1.2.2.2
  obtain ⟨hDO, htp, htsb, hW0, f4, f12, f14, f13, f6, f7, f8⟩ := id hRA
  have e4 : nI (sx_dN α a) = α 4 a := (sx_dN_ok hAc).2.symm
  have e12 : sx_bI (sx_fb α 12 a) = α 12 a := sx_fb_ok hAc.2.2.2.2.2.1
  have e13 : sx_bI (sx_fb α 13 a) = α 13 a := sx_fb_ok hAc.2.2.2.2.2.2.1
  have e14 : sx_bI (sx_fb α 14 a) = α 14 a := sx_fb_ok hAc.2.2.2.2.2.2.2
  have e6 : nI (sx_oN α a) = α 6 a := (sx_oN_ok hAc hL5).2
  have oL := (sx_oN_ok hAc hL5).1
  have e8 : nI (sx_tN α a) = α 8 a := (sx_tN_ok hAc).2.symm
  have t60 := (sx_tN_ok hAc).1
  rw [sx_XA_eq hAc hL5 hRA] at hP hD
  refine lv_aload_n hx hb d_X_remove_0 rfl (lv_at hl 0 rfl) ?_
  refine lv_iload_n hx hb d_X_remove_1 rfl (lv_at hl 1 rfl) ?_
  rcases Bool.eq_false_or_eq_true (sx_fb α 12 a) with hth | hth
  · refine va_csq (va_runV (As := [.int (nI a)]) (rest := []) ⟨hx, hb, hml, hown, hts⟩ (k_run l D cA h g (nI L) na (sx_bI sb) (nI n) (α 1) (α 2) ab un sv sf sl acts (K.1 0) (K.1 1) (nI (sx_dN α a)) (sx_fb α 12 a) (sx_bI (sx_fb α 14 a)) (sx_bI (sx_fb α 13 a)) (nI (sx_oN α a)) (α 7 a) (K.1 2) (nI (sx_tN α a)) (K.2 0) (K.1 3) (K.2 1) (K.2 2) a (by omega) (by omega) hacts hth) (cwV 1 hts (sx_GV wd_266 wd_268 ws_4 wd_1 wd_269) rfl rfl rfl (by decide +kernel) ⟨Nat.le_of_ble_eq_true rfl, Nat.le_of_ble_eq_true rfl⟩) (sx_preV hK hP (va_recv hK.1 hP (ci := 3) (q0 := 0) rfl rfl)) rfl rfl hl.1 rfl (lv_room (Nat.le_of_ble_eq_true rfl)) d_X_remove_2 ⟨Nat.le_of_ble_eq_true rfl, Nat.le_of_ble_eq_true rfl⟩).run (fun r_2 hr_1 => ?_)
    subst hr_1
    refine sx_asv (y := .ref (g 0)) rfl ?_
    refine lv_astore_n (lv' := [(3, .ref (g 0)), (0, .ref (h 0)), (1, .int (nI a)), (2, .int p)]) hx hb d_X_remove_5 rfl hl (by decide) rfl (fun ls hl => ?_)
    refine lv_aload_n hx hb d_X_remove_6 rfl (lv_at hl 0 rfl) ?_
    refine lv_ifnull hx hb d_X_remove_7 ?_
    refine lv_aload_n hx hb d_X_remove_10 rfl (lv_at hl 1 rfl) ?_
    refine va_get (D := D) (ci := 3) (v := .ref (h 1)) (C := R_X) (T := T_X) (N := 6) hx hb hts iw_X hown hK.1 hP 0 rfl rfl 1 (by decide) (hts _ wd_70) (fun _ h9 => h9) rfl d_X_remove_11 ?_
    refine lv_iload_n hx hb d_X_remove_14 rfl (lv_at hl 3 rfl) ?_
    have hPc : va_P D vwCl (wP cA (h 1) (h 2) (h 3) (h 4) (h 5) (nI n) (α 1) (α 2) ab un) s.heap := hP.sub [1, 2, 3, 4, 5] rfl
    refine vp_callSi (va_runV (As := [.int p]) (rest := []) ⟨hx, hb, hml, hown, hts⟩ (k_has l D cA (h 1) (h 2) (h 3) (h 4) (h 5) n (α 1) (α 2) ab un p) (cwV 1 hts (sx_GV wd_92 wd_93 wd_94 wd_3 wd_95) rfl rfl rfl (by decide +kernel) ⟨Nat.le_of_ble_eq_true rfl, Nat.le_of_ble_eq_true rfl⟩) (sx_preV hK hPc (va_recv hK.1 hPc (ci := 1) (q0 := 0) rfl rfl)) rfl rfl hl.1 rfl (lv_room (Nat.le_of_ble_eq_true rfl)) d_X_remove_15 ⟨Nat.le_of_ble_eq_true rfl, Nat.le_of_ble_eq_true rfl⟩).run (fun r_4 hr_3 => ?_)
    subst hr_3
    refine lv_if_ne (tgt := 23) hx hb d_X_remove_18 (by decide) (fun c_5 => ?_) (fun c_5 => ?_)
    · have c_5 : (sx_has n p) = true := sx_bIn c_5
      obtain ⟨j, hj, rfl⟩ := sx_has_t (by omega) c_5
      refine lv_aload_n hx hb d_X_remove_23 rfl (lv_at hl 0 rfl) ?_
      refine lv_aload_n hx hb d_X_remove_24 rfl (lv_at hl 1 rfl) ?_
      refine va_get (D := D) (ci := 3) (v := .int (nI L)) (C := R_X) (T := T_X) (N := 6) hx hb hts iw_X hown hK.1 hP 0 rfl rfl 0 (by decide) (hts _ wd_69) (fun _ h9 => h9) rfl d_X_remove_25 ?_
      rcases Nat.lt_or_ge (sx_oN α a) L with hoL | hoL
      · have hne : ¬ α 6 a = nI L := fun z => by rw [← e6] at z; have := (nI_eq (by omega) (by omega)).mp z; omega
        have hPc : va_P D vwCl (wA cA (g 0) (g 1) (g 2) (g 3) (g 4) (g 5) (K.1 0) (K.1 1) (nI (sx_dN α a)) (sx_bI (sx_fb α 12 a)) (sx_bI (sx_fb α 14 a)) (sx_bI (sx_fb α 13 a)) (nI (sx_oN α a)) (α 7 a) (K.1 2) (nI (sx_tN α a)) (K.2 0) (K.1 3) (K.2 1) (K.2 2)) s.heap := hP.sub [9, 10, 11, 12, 13, 14] rfl
        have hDc : va_D A (wA cA (g 0) (g 1) (g 2) (g 3) (g 4) (g 5) (K.1 0) (K.1 1) (nI (sx_dN α a)) (sx_bI (sx_fb α 12 a)) (sx_bI (sx_fb α 14 a)) (sx_bI (sx_fb α 13 a)) (nI (sx_oN α a)) (α 7 a) (K.1 2) (nI (sx_tN α a)) (K.2 0) (K.1 3) (K.2 1) (K.2 2)) := hD.sub [9, 10, 11, 12, 13, 14] (by decide) rfl
        refine sx_calli (wr := [(h 0, .inr (3, [.int (nI L), .ref (h 1), .ref (h 6), .ref (h 8), .int (nI na), .int (sx_bI sb)])), (h 1, .inr (1, [.ref (h 2), .ref (h 3), .ref (h 4), .ref (h 5), .int (nI n)])), (h 2, .inl (cA 0, 60, .inl (α 1))), (h 3, .inl (cA 2, 60, .inl (α 2))), (h 4, .inl (cA 3, 60, .inr (.inl ab))), (h 5, .inl (cA 3, 60, .inr (.inl un))), (h 6, .inr (2, [.ref (h 7), .long sf, .long sl])), (h 7, .inl (cA 0, 60, .inl sv)), (h 8, .inl (cA 4, 10, .inr (.inr (.inr (.inr acts)))))]) (va_runV (As := [.int (nI L)]) (rest := []) ⟨hx, hb, hml, hown, hts⟩ (k_op l D cA s.heap.size (g 0) (g 1) (g 2) (g 3) (g 4) (g 5) (K.1 0) (K.1 1) (nI (sx_dN α a)) (sx_bI (sx_fb α 12 a)) (sx_bI (sx_fb α 14 a)) (sx_bI (sx_fb α 13 a)) (sx_oN α a) (α 7 a) (K.1 2) (nI (sx_tN α a)) (K.2 0) (K.1 3) (K.2 1) (K.2 2) L (by omega) (by omega)) (cwV 1 hts (sx_GV wd_270 wd_271 wd_272 wd_6 wd_273) rfl rfl rfl (by decide +kernel) ⟨Nat.le_of_ble_eq_true rfl, Nat.le_of_ble_eq_true rfl⟩) (sx_preVw hK hPc hDc (va_recv hK.1 hPc (ci := 0) (q0 := 0) rfl rfl)) rfl rfl hl.1 rfl (lv_room (Nat.le_of_ble_eq_true rfl)) d_X_remove_28 ⟨Nat.le_of_ble_eq_true rfl, Nat.le_of_ble_eq_true rfl⟩) hP hD hS hA [9, 10, 11, 12, 13, 14] [0, 1, 2, 3, 4, 5, 6, 7, 8] rfl rfl (by decide) (by decide) (fun r_7 u_8 H locs hr_6 hP hD hS => ?_)
        have hP : va_P D vwCl (wXA cA h g (nI L) (nI na) (sx_bI sb) (nI n) (α 1) (α 2) ab un sv sf sl acts (K.1 0) (K.1 1) (nI (sx_dN α a)) (sx_bI (sx_fb α 12 a)) (sx_bI (sx_fb α 14 a)) (sx_bI (sx_fb α 13 a)) (nI (sx_oN α a + 1)) (α 7 a) (K.1 2) (nI (sx_tN α a)) (K.2 0) (K.1 3) (K.2 1) (K.2 2)) H := hP.sub [0, 1, 2, 3, 4, 5, 6, 7, 8, 9, 10, 11, 12, 13, 14] rfl
        have hD : va_D A (wXA cA h g (nI L) (nI na) (sx_bI sb) (nI n) (α 1) (α 2) ab un sv sf sl acts (K.1 0) (K.1 1) (nI (sx_dN α a)) (sx_bI (sx_fb α 12 a)) (sx_bI (sx_fb α 14 a)) (sx_bI (sx_fb α 13 a)) (nI (sx_oN α a + 1)) (α 7 a) (K.1 2) (nI (sx_tN α a)) (K.2 0) (K.1 3) (K.2 1) (K.2 2)) := hD.sub [0, 1, 2, 3, 4, 5, 6, 7, 8, 9, 10, 11, 12, 13, 14] (by decide) rfl
        subst hr_6
        refine lv_if_ne (tgt := 37) hx hb d_X_remove_31 (by decide) (fun c_9 => ?_) (fun c_9 => ?_)
        · refine lv_aload_n hx hb d_X_remove_37 rfl (lv_at hl 1 rfl) ?_
          refine lv_aload_n hx hb d_X_remove_38 rfl (lv_at hl 0 rfl) ?_
          refine vp_callSl (va_runV (As := [.ref (g 0)]) (rest := []) ⟨hx, hb, hml, hown, hts⟩ (k_wr l D cA h g (nI L) (nI na) (sx_bI sb) n α ab un sv sf sl acts a (K.1 0) (K.1 1) (sx_bI (sx_fb α 12 a)) (sx_bI (sx_fb α 14 a)) (sx_bI (sx_fb α 13 a)) (nI (sx_oN α a + 1)) (α 7 a) (K.1 2) (nI (sx_tN α a)) (K.2 0) (K.1 3) (K.2 1) (K.2 2) na L hI ha hR hDO) (cwV 1 hts (sx_GV wd_288 wd_290 ws_6 wd_1 wd_291) rfl rfl rfl (by decide +kernel) ⟨Nat.le_of_ble_eq_true rfl, Nat.le_of_ble_eq_true rfl⟩) (sx_preV hK hP (va_recv hK.1 hP (ci := 3) (q0 := 0) rfl rfl)) rfl rfl hl.1 rfl (lv_room (Nat.le_of_ble_eq_true rfl)) d_X_remove_39 ⟨Nat.le_of_ble_eq_true rfl, Nat.le_of_ble_eq_true rfl⟩).run (fun r_11 hr_10 => ?_)
          refine lv_aload_n hx hb d_X_remove_42 rfl (lv_at hl 0 rfl) ?_
          refine va_getN (D := D) (ci := 0) (v := .ref (g 3)) (C := R_A) (T := T_A) (N := 12) hx hb hts iw_A hown hK.1 hP 9 rfl rfl 3 (by decide) (va_Nw.use rfl (hK.2.1 _ wd_166)) (fun _ h9 => h9) rfl d_X_remove_43 ?_
          have hPc : va_P D vwCl (wS cA (g 3) (g 4) (K.1 3) (K.2 1) (K.2 2)) H := hP.sub [12, 13] rfl
          refine vp_callSl (va_runV (As := []) (rest := [.long r_11]) ⟨hx, hb, hml, hown, hts⟩ (k_taken l D cA (g 3) (g 4) (K.1 3) (K.2 1) (K.2 2) ) (cwV 0 hts (sx_GV wd_121 wd_122 wd_123 wd_4 wd_124) rfl rfl rfl (by decide +kernel) ⟨Nat.le_of_ble_eq_true rfl, Nat.le_of_ble_eq_true rfl⟩) (sx_preV hK hPc (va_recv hK.1 hPc (ci := 2) (q0 := 0) rfl rfl)) rfl rfl hl.1 rfl (lv_room (Nat.le_of_ble_eq_true rfl)) d_X_remove_46 ⟨Nat.le_of_ble_eq_true rfl, Nat.le_of_ble_eq_true rfl⟩).run (fun r_13 hr_12 => ?_)
          subst hr_12
          refine lv_land hx hb d_X_remove_49 ?_
          refine lv_iload_n hx hb d_X_remove_50 rfl (lv_at hl 3 rfl) ?_
          refine vp_callSi (va_runS (As := [.long (r_11 &&& ((K.2 1) ||| (K.2 2))), .int (nI j)]) (rest := []) ⟨hx, hb, hml, hown, hts⟩ (k_holds l D cA (r_11 &&& ((K.2 1) ||| (K.2 2))) j (by omega)) (va_cwS 2 hts (sx_GS wd_220 wd_109 wd_1 wd_110) rfl rfl rfl (by decide +kernel) ⟨Nat.le_of_ble_eq_true rfl, Nat.le_of_ble_eq_true rfl⟩) (sx_preS hK (sx_P0 : va_P D vwCl [] H)) rfl rfl hl.1 rfl (lv_room (Nat.le_of_ble_eq_true rfl)) d_X_remove_51 ⟨Nat.le_of_ble_eq_true rfl, Nat.le_of_ble_eq_true rfl⟩).run (fun r_15 hr_14 => ?_)
          subst hr_14
          refine lv_if_ne (tgt := 63) hx hb d_X_remove_54 (by decide) (fun c_16 => ?_) (fun c_16 => ?_)
          · have w54 : (sx_isW n α a j && !decide (α 10 (60 * a + j) = 0)) = true := by have z := sx_bIn c_16; rw [sx_bt_and, hr_10 j (by omega), sx_RW_tk hW0 (by omega), decide_eq_true hj, decide_eq_true (show j < 60 by omega), Bool.true_and, Bool.true_and] at z; exact z
            refine lv_aload_n hx hb d_X_remove_63 rfl (lv_at hl 0 rfl) ?_
            refine va_getN (D := D) (ci := 0) (v := .ref (g 3)) (C := R_A) (T := T_A) (N := 12) hx hb hts iw_A hown hK.1 hP 9 rfl rfl 3 (by decide) (va_Nw.use rfl (hK.2.1 _ wd_166)) (fun _ h9 => h9) rfl d_X_remove_64 ?_
            refine lv_iload_n hx hb d_X_remove_67 rfl (lv_at hl 3 rfl) ?_
            have hPc : va_P D vwCl (wS cA (g 3) (g 4) (K.1 3) (K.2 1) (K.2 2)) H := hP.sub [12, 13] rfl
            have hDc : va_D A (wS cA (g 3) (g 4) (K.1 3) (K.2 1) (K.2 2)) := hD.sub [12, 13] (by decide) rfl
            refine sx_callv (wr := [(h 0, .inr (3, [.int (nI L), .ref (h 1), .ref (h 6), .ref (h 8), .int (nI na), .int (sx_bI sb)])), (h 1, .inr (1, [.ref (h 2), .ref (h 3), .ref (h 4), .ref (h 5), .int (nI n)])), (h 2, .inl (cA 0, 60, .inl (α 1))), (h 3, .inl (cA 2, 60, .inl (α 2))), (h 4, .inl (cA 3, 60, .inr (.inl ab))), (h 5, .inl (cA 3, 60, .inr (.inl un))), (h 6, .inr (2, [.ref (h 7), .long sf, .long sl])), (h 7, .inl (cA 0, 60, .inl sv)), (h 8, .inl (cA 4, 10, .inr (.inr (.inr (.inr acts))))), (g 0, .inr (0, [.ref (g 1), .ref (g 2), .int (nI (sx_dN α a)), .ref (g 3), .int (sx_bI (sx_fb α 12 a)), .int (sx_bI (sx_fb α 14 a)), .int (sx_bI (sx_fb α 13 a)), .int (nI (sx_oN α a + 1)), .int (α 7 a), .ref (g 5), .int (nI (sx_tN α a)), .long (K.2 0)])), (g 1, .inl (cA 0, 12, .inl (K.1 0))), (g 2, .inl (cA 1, 12, .inl (K.1 1))), (g 5, .inl (cA 0, 60, .inl (K.1 2)))]) (va_runV (As := [.int (nI j)]) (rest := []) ⟨hx, hb, hml, hown, hts⟩ (k_away l D cA H.size (g 3) (g 4) (K.1 3) (K.2 1) (K.2 2) j) (cwV 1 hts (sx_GV wd_125 wd_126 wd_127 wd_4 wd_128) rfl rfl rfl (by decide +kernel) ⟨Nat.le_of_ble_eq_true rfl, Nat.le_of_ble_eq_true rfl⟩) (sx_preVw hK hPc hDc (va_recv hK.1 hPc (ci := 2) (q0 := 0) rfl rfl)) rfl rfl hl.1 rfl (lv_room (Nat.le_of_ble_eq_true rfl)) d_X_remove_68 ⟨Nat.le_of_ble_eq_true rfl, Nat.le_of_ble_eq_true rfl⟩) hP hD hS hA [12, 13] [0, 1, 2, 3, 4, 5, 6, 7, 8, 9, 10, 11, 14] rfl rfl (by decide) (by decide) (fun u_19 H locs hr_17 hP hD hS => ?_)
            have hP : va_P D vwCl (wXA cA h g (nI L) (nI na) (sx_bI sb) (nI n) (α 1) (α 2) ab un sv sf sl acts (K.1 0) (K.1 1) (nI (sx_dN α a)) (sx_bI (sx_fb α 12 a)) (sx_bI (sx_fb α 14 a)) (sx_bI (sx_fb α 13 a)) (nI (sx_oN α a + 1)) (α 7 a) (K.1 2) (nI (sx_tN α a)) (K.2 0) (K.1 3) ((K.2 1) &&& (sx_on j ^^^ (-1))) ((K.2 2) &&& (sx_on j ^^^ (-1)))) H := hP.sub [0, 1, 2, 3, 4, 5, 6, 7, 8, 9, 10, 11, 13, 14, 12] rfl
            have hD : va_D A (wXA cA h g (nI L) (nI na) (sx_bI sb) (nI n) (α 1) (α 2) ab un sv sf sl acts (K.1 0) (K.1 1) (nI (sx_dN α a)) (sx_bI (sx_fb α 12 a)) (sx_bI (sx_fb α 14 a)) (sx_bI (sx_fb α 13 a)) (nI (sx_oN α a + 1)) (α 7 a) (K.1 2) (nI (sx_tN α a)) (K.2 0) (K.1 3) ((K.2 1) &&& (sx_on j ^^^ (-1))) ((K.2 2) &&& (sx_on j ^^^ (-1)))) := hD.sub [0, 1, 2, 3, 4, 5, 6, 7, 8, 9, 10, 11, 13, 14, 12] (by decide) rfl
            refine lv_iconst (v := nI 1) hx hb d_X_remove_71 (by decide +kernel) ?_
            have hP9 : va_P D vwCl (wXAk cA h g (nI L) (nI na) (sx_bI sb) (nI n) (α 1) (α 2) ab un sv sf sl acts (sx_kA (K.1 0) (K.1 1) (nI (sx_dN α a)) (sx_bI (sx_fb α 12 a)) (sx_bI (sx_fb α 14 a)) (sx_bI (sx_fb α 13 a)) (nI (sx_oN α a + 1)) (α 7 a) (K.1 2) (nI (sx_tN α a)) (K.2 0) (K.1 3) ((K.2 1) &&& (sx_on j ^^^ (-1))) ((K.2 2) &&& (sx_on j ^^^ (-1))))) H := hP
            have hD9 : va_D A (wXAk cA h g (nI L) (nI na) (sx_bI sb) (nI n) (α 1) (α 2) ab un sv sf sl acts (sx_kA (K.1 0) (K.1 1) (nI (sx_dN α a)) (sx_bI (sx_fb α 12 a)) (sx_bI (sx_fb α 14 a)) (sx_bI (sx_fb α 13 a)) (nI (sx_oN α a + 1)) (α 7 a) (K.1 2) (nI (sx_tN α a)) (K.2 0) (K.1 3) ((K.2 1) &&& (sx_on j ^^^ (-1))) ((K.2 2) &&& (sx_on j ^^^ (-1))))) := hD
            exact W.iret (v := nI 1) hx hb hr (fun t ht hW => ⟨⟨nI 1, (sx_kA (K.1 0) (K.1 1) (nI (sx_dN α a)) (sx_bI (sx_fb α 12 a)) (sx_bI (sx_fb α 14 a)) (sx_bI (sx_fb α 13 a)) (nI (sx_oN α a + 1)) (α 7 a) (K.1 2) (nI (sx_tN α a)) (K.2 0) (K.1 3) ((K.2 1) &&& (sx_on j ^^^ (-1))) ((K.2 2) &&& (sx_on j ^^^ (-1)))), rfl, (sx_fin2 (sx_do_yes (sb := sb) (v := 0) (by omega) (sx_ok_t hth (sx_has_nI (by omega) hj) (sx_has0 h1n hn60)) hne (by unfold sx_rmO; rw [nI_clamp (by omega)]; exact w54)) rfl (sx_RA_w hDO htp htsb (sx_W_away hW0 (by omega)) e4 e12 e14 e13 e6 rfl e8)), by rw [ht]; exact hP9, by rw [hAe]; exact hD9⟩, hS.F ht⟩) hS.2.2 d_X_remove_72
          · have w54 : (sx_isW n α a j && !decide (α 10 (60 * a + j) = 0)) = false := by have z := sx_bI0 c_16; rw [sx_bt_and, hr_10 j (by omega), sx_RW_tk hW0 (by omega), decide_eq_true hj, decide_eq_true (show j < 60 by omega), Bool.true_and, Bool.true_and] at z; exact z
            refine lv_aload_n hx hb d_X_remove_57 rfl (lv_at hl 1 rfl) ?_
            refine lv_aload_n hx hb d_X_remove_58 rfl (lv_at hl 0 rfl) ?_
            refine sx_calli (wr := []) (va_runV (As := [.ref (g 0)]) (rest := []) ⟨hx, hb, hml, hown, hts⟩ (k_refuse l D cA H.size h g (nI L) (nI na) sb (nI n) (α 1) (α 2) ab un sv sf sl acts (K.1 0) (K.1 1) (nI (sx_dN α a)) (sx_bI (sx_fb α 12 a)) (sx_bI (sx_fb α 14 a)) (sx_bI (sx_fb α 13 a)) (nI (sx_oN α a + 1)) (α 7 a) (K.1 2) (nI (sx_tN α a)) (K.2 0) (K.1 3) (K.2 1) (K.2 2)) (cwV 1 hts (sx_GV wd_297 wd_299 ws_8 wd_1 wd_300) rfl rfl rfl (by decide +kernel) ⟨Nat.le_of_ble_eq_true rfl, Nat.le_of_ble_eq_true rfl⟩) (sx_preVw hK hP hD (va_recv hK.1 hP (ci := 3) (q0 := 0) rfl rfl)) rfl rfl hl.1 rfl (lv_room (Nat.le_of_ble_eq_true rfl)) d_X_remove_59 ⟨Nat.le_of_ble_eq_true rfl, Nat.le_of_ble_eq_true rfl⟩) hP hD hS hA [0, 1, 2, 3, 4, 5, 6, 7, 8, 9, 10, 11, 12, 13, 14] [] rfl rfl (by decide) (by decide) (fun r_21 u_22 H locs hr_20 hP hD hS => ?_)
            have hP : va_P D vwCl (wXA cA h g (nI L) (nI na) (sx_bI sb) (nI n) (α 1) (α 2) ab un sv sf sl acts (K.1 0) (K.1 1) (nI (sx_dN α a)) (sx_bI (sx_fb α 12 a)) (sx_bI (sx_fb α 14 a)) (bif sb then 1 else (sx_bI (sx_fb α 13 a))) (nI (sx_oN α a + 1)) ((α 7 a) + 1) (K.1 2) (nI (sx_tN α a)) (K.2 0) (K.1 3) (K.2 1) (K.2 2)) H := hP.sub [0, 1, 2, 3, 4, 5, 6, 7, 8, 9, 10, 11, 12, 13, 14] rfl
            have hD : va_D A (wXA cA h g (nI L) (nI na) (sx_bI sb) (nI n) (α 1) (α 2) ab un sv sf sl acts (K.1 0) (K.1 1) (nI (sx_dN α a)) (sx_bI (sx_fb α 12 a)) (sx_bI (sx_fb α 14 a)) (bif sb then 1 else (sx_bI (sx_fb α 13 a))) (nI (sx_oN α a + 1)) ((α 7 a) + 1) (K.1 2) (nI (sx_tN α a)) (K.2 0) (K.1 3) (K.2 1) (K.2 2)) := hD.sub [0, 1, 2, 3, 4, 5, 6, 7, 8, 9, 10, 11, 12, 13, 14] (by decide) rfl
            subst hr_20
            have hP9 : va_P D vwCl (wXAk cA h g (nI L) (nI na) (sx_bI sb) (nI n) (α 1) (α 2) ab un sv sf sl acts (sx_kA (K.1 0) (K.1 1) (nI (sx_dN α a)) (sx_bI (sx_fb α 12 a)) (sx_bI (sx_fb α 14 a)) (bif sb then 1 else (sx_bI (sx_fb α 13 a))) (nI (sx_oN α a + 1)) ((α 7 a) + 1) (K.1 2) (nI (sx_tN α a)) (K.2 0) (K.1 3) (K.2 1) (K.2 2))) H := hP
            have hD9 : va_D A (wXAk cA h g (nI L) (nI na) (sx_bI sb) (nI n) (α 1) (α 2) ab un sv sf sl acts (sx_kA (K.1 0) (K.1 1) (nI (sx_dN α a)) (sx_bI (sx_fb α 12 a)) (sx_bI (sx_fb α 14 a)) (bif sb then 1 else (sx_bI (sx_fb α 13 a))) (nI (sx_oN α a + 1)) ((α 7 a) + 1) (K.1 2) (nI (sx_tN α a)) (K.2 0) (K.1 3) (K.2 1) (K.2 2))) := hD
            exact W.iret (v := nI 0) hx hb hr (fun t ht hW => ⟨⟨nI 0, (sx_kA (K.1 0) (K.1 1) (nI (sx_dN α a)) (sx_bI (sx_fb α 12 a)) (sx_bI (sx_fb α 14 a)) (bif sb then 1 else (sx_bI (sx_fb α 13 a))) (nI (sx_oN α a + 1)) ((α 7 a) + 1) (K.1 2) (nI (sx_tN α a)) (K.2 0) (K.1 3) (K.2 1) (K.2 2)), rfl, (sx_fin2 (sx_do_ref (sb := sb) (v := 0) (sx_ok_t hth (sx_has_nI (by omega) hj) (sx_has0 h1n hn60)) hne (by unfold sx_rmO; rw [nI_clamp (by omega)]; exact w54)) rfl (sx_RA_of hDO htp htsb hW0 e4 e12 e14 (sx_ref_br e13 rfl) (sx_ref_op e6) sx_ref_rf e8)), by rw [ht]; exact hP9, by rw [hAe]; exact hD9⟩, hS.F ht⟩) hS.2.2 d_X_remove_62
        · exact absurd c_9 (by decide)
      · have hoE : sx_oN α a = L := by omega
        have heq : α 6 a = nI L := by rw [← e6, hoE]
        have hPc : va_P D vwCl (wA cA (g 0) (g 1) (g 2) (g 3) (g 4) (g 5) (K.1 0) (K.1 1) (nI (sx_dN α a)) (sx_bI (sx_fb α 12 a)) (sx_bI (sx_fb α 14 a)) (sx_bI (sx_fb α 13 a)) (nI (sx_oN α a)) (α 7 a) (K.1 2) (nI (sx_tN α a)) (K.2 0) (K.1 3) (K.2 1) (K.2 2)) s.heap := hP.sub [9, 10, 11, 12, 13, 14] rfl
        have hDc : va_D A (wA cA (g 0) (g 1) (g 2) (g 3) (g 4) (g 5) (K.1 0) (K.1 1) (nI (sx_dN α a)) (sx_bI (sx_fb α 12 a)) (sx_bI (sx_fb α 14 a)) (sx_bI (sx_fb α 13 a)) (nI (sx_oN α a)) (α 7 a) (K.1 2) (nI (sx_tN α a)) (K.2 0) (K.1 3) (K.2 1) (K.2 2)) := hD.sub [9, 10, 11, 12, 13, 14] (by decide) rfl
        refine sx_calli (wr := [(h 0, .inr (3, [.int (nI L), .ref (h 1), .ref (h 6), .ref (h 8), .int (nI na), .int (sx_bI sb)])), (h 1, .inr (1, [.ref (h 2), .ref (h 3), .ref (h 4), .ref (h 5), .int (nI n)])), (h 2, .inl (cA 0, 60, .inl (α 1))), (h 3, .inl (cA 2, 60, .inl (α 2))), (h 4, .inl (cA 3, 60, .inr (.inl ab))), (h 5, .inl (cA 3, 60, .inr (.inl un))), (h 6, .inr (2, [.ref (h 7), .long sf, .long sl])), (h 7, .inl (cA 0, 60, .inl sv)), (h 8, .inl (cA 4, 10, .inr (.inr (.inr (.inr acts)))))]) (va_runV (As := [.int (nI L)]) (rest := []) ⟨hx, hb, hml, hown, hts⟩ (k_opF l D cA s.heap.size (g 0) (g 1) (g 2) (g 3) (g 4) (g 5) (K.1 0) (K.1 1) (nI (sx_dN α a)) (sx_bI (sx_fb α 12 a)) (sx_bI (sx_fb α 14 a)) (sx_bI (sx_fb α 13 a)) (sx_oN α a) (α 7 a) (K.1 2) (nI (sx_tN α a)) (K.2 0) (K.1 3) (K.2 1) (K.2 2) L hoE (by omega)) (cwV 1 hts (sx_GV wd_270 wd_271 wd_272 wd_6 wd_273) rfl rfl rfl (by decide +kernel) ⟨Nat.le_of_ble_eq_true rfl, Nat.le_of_ble_eq_true rfl⟩) (sx_preVw hK hPc hDc (va_recv hK.1 hPc (ci := 0) (q0 := 0) rfl rfl)) rfl rfl hl.1 rfl (lv_room (Nat.le_of_ble_eq_true rfl)) d_X_remove_28 ⟨Nat.le_of_ble_eq_true rfl, Nat.le_of_ble_eq_true rfl⟩) hP hD hS hA [9, 10, 11, 12, 13, 14] [0, 1, 2, 3, 4, 5, 6, 7, 8] rfl rfl (by decide) (by decide) (fun r_24 u_25 H locs hr_23 hP hD hS => ?_)
        have hP : va_P D vwCl (wXA cA h g (nI L) (nI na) (sx_bI sb) (nI n) (α 1) (α 2) ab un sv sf sl acts (K.1 0) (K.1 1) (nI (sx_dN α a)) (sx_bI (sx_fb α 12 a)) (sx_bI (sx_fb α 14 a)) (nI 1) (nI (sx_oN α a)) (α 7 a) (K.1 2) (nI (sx_tN α a)) (K.2 0) (K.1 3) (K.2 1) (K.2 2)) H := hP.sub [0, 1, 2, 3, 4, 5, 6, 7, 8, 9, 10, 11, 12, 13, 14] rfl
        have hD : va_D A (wXA cA h g (nI L) (nI na) (sx_bI sb) (nI n) (α 1) (α 2) ab un sv sf sl acts (K.1 0) (K.1 1) (nI (sx_dN α a)) (sx_bI (sx_fb α 12 a)) (sx_bI (sx_fb α 14 a)) (nI 1) (nI (sx_oN α a)) (α 7 a) (K.1 2) (nI (sx_tN α a)) (K.2 0) (K.1 3) (K.2 1) (K.2 2)) := hD.sub [0, 1, 2, 3, 4, 5, 6, 7, 8, 9, 10, 11, 12, 13, 14] (by decide) rfl
        subst hr_23
        refine lv_if_ne (tgt := 37) hx hb d_X_remove_31 (by decide) (fun c_26 => ?_) (fun c_26 => ?_)
        · exact absurd c_26 (by decide)
        · refine lv_bipush (v := (-9)) hx hb d_X_remove_34 (by decide +kernel) ?_
          have hP9 : va_P D vwCl (wXAk cA h g (nI L) (nI na) (sx_bI sb) (nI n) (α 1) (α 2) ab un sv sf sl acts (sx_kA (K.1 0) (K.1 1) (nI (sx_dN α a)) (sx_bI (sx_fb α 12 a)) (sx_bI (sx_fb α 14 a)) (nI 1) (nI (sx_oN α a)) (α 7 a) (K.1 2) (nI (sx_tN α a)) (K.2 0) (K.1 3) (K.2 1) (K.2 2))) H := hP
          have hD9 : va_D A (wXAk cA h g (nI L) (nI na) (sx_bI sb) (nI n) (α 1) (α 2) ab un sv sf sl acts (sx_kA (K.1 0) (K.1 1) (nI (sx_dN α a)) (sx_bI (sx_fb α 12 a)) (sx_bI (sx_fb α 14 a)) (nI 1) (nI (sx_oN α a)) (α 7 a) (K.1 2) (nI (sx_tN α a)) (K.2 0) (K.1 3) (K.2 1) (K.2 2))) := hD
          exact W.iret (v := (-9)) hx hb hr (fun t ht hW => ⟨⟨(-9), (sx_kA (K.1 0) (K.1 1) (nI (sx_dN α a)) (sx_bI (sx_fb α 12 a)) (sx_bI (sx_fb α 14 a)) (nI 1) (nI (sx_oN α a)) (α 7 a) (K.1 2) (nI (sx_tN α a)) (K.2 0) (K.1 3) (K.2 1) (K.2 2)), rfl, (sx_fin2 (sx_do_lim (sb := sb) (v := 0) (sx_ok_t hth c_5 (sx_has0 h1n hn60)) heq) rfl (sx_RA_of hDO htp htsb hW0 e4 e12 e14 (by rw [sx_at]; rfl) e6 rfl e8)), by rw [ht]; exact hP9, by rw [hAe]; exact hD9⟩, hS.F ht⟩) hS.2.2 d_X_remove_36
    · have c_5 : (sx_has n p) = false := sx_bI0 c_5
      refine lv_iconst (v := (-1)) hx hb d_X_remove_21 (by decide +kernel) ?_
      have hP9 : va_P D vwCl (wXAk cA h g (nI L) (nI na) (sx_bI sb) (nI n) (α 1) (α 2) ab un sv sf sl acts (sx_kA (K.1 0) (K.1 1) (nI (sx_dN α a)) (sx_bI (sx_fb α 12 a)) (sx_bI (sx_fb α 14 a)) (sx_bI (sx_fb α 13 a)) (nI (sx_oN α a)) (α 7 a) (K.1 2) (nI (sx_tN α a)) (K.2 0) (K.1 3) (K.2 1) (K.2 2))) s.heap := hP
      have hD9 : va_D A (wXAk cA h g (nI L) (nI na) (sx_bI sb) (nI n) (α 1) (α 2) ab un sv sf sl acts (sx_kA (K.1 0) (K.1 1) (nI (sx_dN α a)) (sx_bI (sx_fb α 12 a)) (sx_bI (sx_fb α 14 a)) (sx_bI (sx_fb α 13 a)) (nI (sx_oN α a)) (α 7 a) (K.1 2) (nI (sx_tN α a)) (K.2 0) (K.1 3) (K.2 1) (K.2 2))) := hD
      exact W.iret (v := (-1)) hx hb hr (fun t ht hW => ⟨⟨(-1), (sx_kA (K.1 0) (K.1 1) (nI (sx_dN α a)) (sx_bI (sx_fb α 12 a)) (sx_bI (sx_fb α 14 a)) (sx_bI (sx_fb α 13 a)) (nI (sx_oN α a)) (α 7 a) (K.1 2) (nI (sx_tN α a)) (K.2 0) (K.1 3) (K.2 1) (K.2 2)), rfl, (sx_fin2 (sx_do_no (sb := sb) (v := 0) (sx_ok_p c_5)) rfl (sx_RA_of hDO htp htsb hW0 e4 e12 e14 e13 e6 rfl e8)), by rw [ht]; exact hP9, by rw [hAe]; exact hD9⟩, hS.F ht⟩) hS.2.2 d_X_remove_22
  · refine va_csq (va_runV (As := [.int (nI a)]) (rest := []) ⟨hx, hb, hml, hown, hts⟩ (k_runN l D cA h g (nI L) na (sx_bI sb) (nI n) (α 1) (α 2) ab un sv sf sl acts (K.1 0) (K.1 1) (nI (sx_dN α a)) (sx_fb α 12 a) (sx_bI (sx_fb α 14 a)) (sx_bI (sx_fb α 13 a)) (nI (sx_oN α a)) (α 7 a) (K.1 2) (nI (sx_tN α a)) (K.2 0) (K.1 3) (K.2 1) (K.2 2) a (by omega) (by omega) hacts hth) (cwV 1 hts (sx_GV wd_266 wd_268 ws_4 wd_1 wd_269) rfl rfl rfl (by decide +kernel) ⟨Nat.le_of_ble_eq_true rfl, Nat.le_of_ble_eq_true rfl⟩) (sx_preV hK hP (va_recv hK.1 hP (ci := 3) (q0 := 0) rfl rfl)) rfl rfl hl.1 rfl (lv_room (Nat.le_of_ble_eq_true rfl)) d_X_remove_2 ⟨Nat.le_of_ble_eq_true rfl, Nat.le_of_ble_eq_true rfl⟩).run (fun r_28 hr_27 => ?_)
    subst hr_27
    refine sx_asv (y := .null) rfl ?_
    refine lv_astore_nN (lv' := [(3, .null), (0, .ref (h 0)), (1, .int (nI a)), (2, .int p)]) hx hb d_X_remove_5 rfl hl (by decide) rfl (fun ls hl => ?_)
    refine lv_aload_nN hx hb d_X_remove_6 rfl (lv_at hl 0 rfl) ?_
    refine lv_ifnullN (tgt := 21) hx hb d_X_remove_7 (by decide) ?_
    refine lv_iconst (v := (-1)) hx hb d_X_remove_21 (by decide +kernel) ?_
    have hP9 : va_P D vwCl (wXAk cA h g (nI L) (nI na) (sx_bI sb) (nI n) (α 1) (α 2) ab un sv sf sl acts (sx_kA (K.1 0) (K.1 1) (nI (sx_dN α a)) (sx_bI (sx_fb α 12 a)) (sx_bI (sx_fb α 14 a)) (sx_bI (sx_fb α 13 a)) (nI (sx_oN α a)) (α 7 a) (K.1 2) (nI (sx_tN α a)) (K.2 0) (K.1 3) (K.2 1) (K.2 2))) s.heap := hP
    have hD9 : va_D A (wXAk cA h g (nI L) (nI na) (sx_bI sb) (nI n) (α 1) (α 2) ab un sv sf sl acts (sx_kA (K.1 0) (K.1 1) (nI (sx_dN α a)) (sx_bI (sx_fb α 12 a)) (sx_bI (sx_fb α 14 a)) (sx_bI (sx_fb α 13 a)) (nI (sx_oN α a)) (α 7 a) (K.1 2) (nI (sx_tN α a)) (K.2 0) (K.1 3) (K.2 1) (K.2 2))) := hD
    exact W.iret (v := (-1)) hx hb hr (fun t ht hW => ⟨⟨(-1), (sx_kA (K.1 0) (K.1 1) (nI (sx_dN α a)) (sx_bI (sx_fb α 12 a)) (sx_bI (sx_fb α 14 a)) (sx_bI (sx_fb α 13 a)) (nI (sx_oN α a)) (α 7 a) (K.1 2) (nI (sx_tN α a)) (K.2 0) (K.1 3) (K.2 1) (K.2 2)), rfl, (sx_fin2 (sx_do_no (sb := sb) (v := 0) (sx_ok_th hth)) rfl (sx_RA_of hDO htp htsb hW0 e4 e12 e14 e13 e6 rfl e8)), by rw [ht]; exact hP9, by rw [hAe]; exact hD9⟩, hS.F ht⟩) hS.2.2 d_X_remove_22

set_option maxHeartbeats 4000000 in
set_option maxRecDepth 100000 in
theorem k_list (l : Launch) (D : va_G) (cA : Nat → ClassId) (sz : Nat) (h g : Nat → Nat) (n na L : Nat) (sb : Bool) (α : sx_A) (ab un : Nat → Int64) (sv : Nat → Int32) (sf sl : Int64) (acts : Nat → Option Nat) (a : Nat) (K : sx_KA) (hI : sx_INV n na L α) (ha : a < na) (hR : sx_RP n (α 1) ab un) (hS0 : sx_RW (α 3) sv sf sl) (hRA : sx_RA α a K) (hacts : acts a = some (g 0)) (p ii : Int32) : Met l y_X_list w_X_list ({ frames := 2, cells := 0, slots := 0, locals := 43 }) (sx_Pw D cA [.ref (h 0), .int (nI a), .int p, .int ii] (wXAk cA h g (nI L) (nI na) (sx_bI sb) (nI n) (α 1) (α 2) ab un sv sf sl acts K) sz) (va_Qi (fun r (u : sx_KA) => r = sx_listA n L α a p ii ∧ sx_RA (sx_mayS n L α a p 0) a u) (sx_Bw D (wXAk cA h g (nI L) (nI na) (sx_bI sb) (nI n) (α 1) (α 2) ab un sv sf sl acts K) sz (fun u => wXAk cA h g (nI L) (nI na) (sx_bI sb) (nI n) (α 1) (α 2) ab un sv sf sl acts u)) (va_A (wXAk cA h g (nI L) (nI na) (sx_bI sb) (nI n) (α 1) (α 2) ab un sv sf sl acts K) sz)) 0 0 (va_A (wXAk cA h g (nI L) (nI na) (sx_bI sb) (nI n) (α 1) (α 2) ab un sv sf sl acts K) sz) := by
  refine Met.ofW (cc := b_X_list) (maxL := 5) (ret := (some .int)) (by decide) rfl ?_
  intro pG eG s m args below meth cG s₁ B hml hv
  obtain ⟨rfl, hsz, hP, hK, hD0⟩ := hv
  have hx := B.exec
  have hb := B.bytes
  have hr := B.returns
  have hts0 := atoms_spec (ws := w_X_list) B.pre
  have hts : ∀ w ∈ sx_gw, w.before _ s = true := fun w h => hts0 w (List.mem_cons_of_mem _ h)
  have hown : s.vm.findClass R_X = some m.cls := findClass_of_methodNamed B.named
  have hlocks := B.notSynchronized
  subst hsz
  have hD := hD0.self (sz := s.heap.size)
  generalize hAe : va_A (wXAk cA h g (nI L) (nI na) (sx_bI sb) (nI n) (α 1) (α 2) ab un sv sf sl acts K) s.heap.size = A at hD ⊢
  have hA : ∀ q : Nat, s.heap.size ≤ q → A q := fun q h => by rw [← hAe]; exact Or.inr h
  have hS : va_S A s.heap s.heap [] := va_S.rf
  have hl := lv_entry ([.ref (h 0), .int (nI a), .int p, .int ii]) (n := 5) (Nat.le_of_ble_eq_true rfl)
  rw [lg_entry_eq]
  generalize (lg_sl ([.ref (h 0), .int (nI a), .int p, .int ii]) ++ List.replicate (5 - (lg_sl ([.ref (h 0), .int (nI a), .int p, .int ii])).length) Slot.unset).toArray = ls at hl ⊢
  have hl : lv_has ls 5 [(0, .ref (h 0)), (1, .int (nI a)), (2, .int p), (3, .int ii)] := hl
  have hn31 := sx_INV_n hI
  have hn60 := hI.1.1.2
  have h1n := hI.1.1.1
  have hAc := sx_INV_A hI ha
  have hd12 := (sx_dN_ok hAc).1
  have hna := hI.1.2.1
  have hL5 := hI.1.2.2.2
  obtain ⟨hDO, htp, htsb, hW0, f4, f12, f14, f13, f6, f7, f8⟩ := id hRA
  have e4 : nI (sx_dN α a) = α 4 a := (sx_dN_ok hAc).2.symm
  have e12 : sx_bI (sx_fb α 12 a) = α 12 a := sx_fb_ok hAc.2.2.2.2.2.1
  have e13 : sx_bI (sx_fb α 13 a) = α 13 a := sx_fb_ok hAc.2.2.2.2.2.2.1
  have e14 : sx_bI (sx_fb α 14 a) = α 14 a := sx_fb_ok hAc.2.2.2.2.2.2.2
  have e6 : nI (sx_oN α a) = α 6 a := (sx_oN_ok hAc hL5).2
  have oL := (sx_oN_ok hAc hL5).1
  have e8 : nI (sx_tN α a) = α 8 a := (sx_tN_ok hAc).2.symm
  have t60 := (sx_tN_ok hAc).1
  rw [sx_XA_eq hAc hL5 hRA] at hP hD
  refine lv_aload_n hx hb d_X_list_0 rfl (lv_at hl 0 rfl) ?_
  refine lv_iload_n hx hb d_X_list_1 rfl (lv_at hl 1 rfl) ?_
  rcases Bool.eq_false_or_eq_true (sx_fb α 12 a) with hth | hth
  · refine va_csq (va_runV (As := [.int (nI a)]) (rest := []) ⟨hx, hb, hml, hown, hts⟩ (k_run l D cA h g (nI L) na (sx_bI sb) (nI n) (α 1) (α 2) ab un sv sf sl acts (K.1 0) (K.1 1) (nI (sx_dN α a)) (sx_fb α 12 a) (sx_bI (sx_fb α 14 a)) (sx_bI (sx_fb α 13 a)) (nI (sx_oN α a)) (α 7 a) (K.1 2) (nI (sx_tN α a)) (K.2 0) (K.1 3) (K.2 1) (K.2 2) a (by omega) (by omega) hacts hth) (cwV 1 hts (sx_GV wd_266 wd_268 ws_4 wd_1 wd_269) rfl rfl rfl (by decide +kernel) ⟨Nat.le_of_ble_eq_true rfl, Nat.le_of_ble_eq_true rfl⟩) (sx_preV hK hP (va_recv hK.1 hP (ci := 3) (q0 := 0) rfl rfl)) rfl rfl hl.1 rfl (lv_room (Nat.le_of_ble_eq_true rfl)) d_X_list_2 ⟨Nat.le_of_ble_eq_true rfl, Nat.le_of_ble_eq_true rfl⟩).run (fun r_2 hr_1 => ?_)
    subst hr_1
    refine sx_asv (y := .ref (g 0)) rfl ?_
    refine lv_astore (lv' := [(4, .ref (g 0)), (0, .ref (h 0)), (1, .int (nI a)), (2, .int p), (3, .int ii)]) hx hb d_X_list_5 hl (by decide) rfl (fun ls hl => ?_)
    refine lv_aload hx hb d_X_list_7 (lv_at hl 0 rfl) ?_
    refine lv_ifnull hx hb d_X_list_9 ?_
    refine lv_aload_n hx hb d_X_list_12 rfl (lv_at hl 1 rfl) ?_
    refine va_get (D := D) (ci := 3) (v := .ref (h 1)) (C := R_X) (T := T_X) (N := 6) hx hb hts iw_X hown hK.1 hP 0 rfl rfl 1 (by decide) (hts _ wd_70) (fun _ h9 => h9) rfl d_X_list_13 ?_
    refine lv_iload_n hx hb d_X_list_16 rfl (lv_at hl 3 rfl) ?_
    have hPc : va_P D vwCl (wP cA (h 1) (h 2) (h 3) (h 4) (h 5) (nI n) (α 1) (α 2) ab un) s.heap := hP.sub [1, 2, 3, 4, 5] rfl
    refine vp_callSi (va_runV (As := [.int p]) (rest := []) ⟨hx, hb, hml, hown, hts⟩ (k_has l D cA (h 1) (h 2) (h 3) (h 4) (h 5) n (α 1) (α 2) ab un p) (cwV 1 hts (sx_GV wd_92 wd_93 wd_94 wd_3 wd_95) rfl rfl rfl (by decide +kernel) ⟨Nat.le_of_ble_eq_true rfl, Nat.le_of_ble_eq_true rfl⟩) (sx_preV hK hPc (va_recv hK.1 hPc (ci := 1) (q0 := 0) rfl rfl)) rfl rfl hl.1 rfl (lv_room (Nat.le_of_ble_eq_true rfl)) d_X_list_17 ⟨Nat.le_of_ble_eq_true rfl, Nat.le_of_ble_eq_true rfl⟩).run (fun r_4 hr_3 => ?_)
    subst hr_3
    refine lv_if_ne (tgt := 25) hx hb d_X_list_20 (by decide) (fun c_5 => ?_) (fun c_5 => ?_)
    · have c_5 : (sx_has n p) = true := sx_bIn c_5
      obtain ⟨j, hj, rfl⟩ := sx_has_t (by omega) c_5
      refine lv_aload hx hb d_X_list_25 (lv_at hl 0 rfl) ?_
      refine lv_aload_n hx hb d_X_list_27 rfl (lv_at hl 1 rfl) ?_
      refine va_get (D := D) (ci := 3) (v := .int (nI L)) (C := R_X) (T := T_X) (N := 6) hx hb hts iw_X hown hK.1 hP 0 rfl rfl 0 (by decide) (hts _ wd_69) (fun _ h9 => h9) rfl d_X_list_28 ?_
      rcases Nat.lt_or_ge (sx_oN α a) L with hoL | hoL
      · have hne : ¬ α 6 a = nI L := fun z => by rw [← e6] at z; have := (nI_eq (by omega) (by omega)).mp z; omega
        have hPc : va_P D vwCl (wA cA (g 0) (g 1) (g 2) (g 3) (g 4) (g 5) (K.1 0) (K.1 1) (nI (sx_dN α a)) (sx_bI (sx_fb α 12 a)) (sx_bI (sx_fb α 14 a)) (sx_bI (sx_fb α 13 a)) (nI (sx_oN α a)) (α 7 a) (K.1 2) (nI (sx_tN α a)) (K.2 0) (K.1 3) (K.2 1) (K.2 2)) s.heap := hP.sub [9, 10, 11, 12, 13, 14] rfl
        have hDc : va_D A (wA cA (g 0) (g 1) (g 2) (g 3) (g 4) (g 5) (K.1 0) (K.1 1) (nI (sx_dN α a)) (sx_bI (sx_fb α 12 a)) (sx_bI (sx_fb α 14 a)) (sx_bI (sx_fb α 13 a)) (nI (sx_oN α a)) (α 7 a) (K.1 2) (nI (sx_tN α a)) (K.2 0) (K.1 3) (K.2 1) (K.2 2)) := hD.sub [9, 10, 11, 12, 13, 14] (by decide) rfl
        refine sx_calli (wr := [(h 0, .inr (3, [.int (nI L), .ref (h 1), .ref (h 6), .ref (h 8), .int (nI na), .int (sx_bI sb)])), (h 1, .inr (1, [.ref (h 2), .ref (h 3), .ref (h 4), .ref (h 5), .int (nI n)])), (h 2, .inl (cA 0, 60, .inl (α 1))), (h 3, .inl (cA 2, 60, .inl (α 2))), (h 4, .inl (cA 3, 60, .inr (.inl ab))), (h 5, .inl (cA 3, 60, .inr (.inl un))), (h 6, .inr (2, [.ref (h 7), .long sf, .long sl])), (h 7, .inl (cA 0, 60, .inl sv)), (h 8, .inl (cA 4, 10, .inr (.inr (.inr (.inr acts)))))]) (va_runV (As := [.int (nI L)]) (rest := []) ⟨hx, hb, hml, hown, hts⟩ (k_op l D cA s.heap.size (g 0) (g 1) (g 2) (g 3) (g 4) (g 5) (K.1 0) (K.1 1) (nI (sx_dN α a)) (sx_bI (sx_fb α 12 a)) (sx_bI (sx_fb α 14 a)) (sx_bI (sx_fb α 13 a)) (sx_oN α a) (α 7 a) (K.1 2) (nI (sx_tN α a)) (K.2 0) (K.1 3) (K.2 1) (K.2 2) L (by omega) (by omega)) (cwV 1 hts (sx_GV wd_270 wd_271 wd_272 wd_6 wd_273) rfl rfl rfl (by decide +kernel) ⟨Nat.le_of_ble_eq_true rfl, Nat.le_of_ble_eq_true rfl⟩) (sx_preVw hK hPc hDc (va_recv hK.1 hPc (ci := 0) (q0 := 0) rfl rfl)) rfl rfl hl.1 rfl (lv_room (Nat.le_of_ble_eq_true rfl)) d_X_list_31 ⟨Nat.le_of_ble_eq_true rfl, Nat.le_of_ble_eq_true rfl⟩) hP hD hS hA [9, 10, 11, 12, 13, 14] [0, 1, 2, 3, 4, 5, 6, 7, 8] rfl rfl (by decide) (by decide) (fun r_7 u_8 H locs hr_6 hP hD hS => ?_)
        have hP : va_P D vwCl (wXA cA h g (nI L) (nI na) (sx_bI sb) (nI n) (α 1) (α 2) ab un sv sf sl acts (K.1 0) (K.1 1) (nI (sx_dN α a)) (sx_bI (sx_fb α 12 a)) (sx_bI (sx_fb α 14 a)) (sx_bI (sx_fb α 13 a)) (nI (sx_oN α a + 1)) (α 7 a) (K.1 2) (nI (sx_tN α a)) (K.2 0) (K.1 3) (K.2 1) (K.2 2)) H := hP.sub [0, 1, 2, 3, 4, 5, 6, 7, 8, 9, 10, 11, 12, 13, 14] rfl
        have hD : va_D A (wXA cA h g (nI L) (nI na) (sx_bI sb) (nI n) (α 1) (α 2) ab un sv sf sl acts (K.1 0) (K.1 1) (nI (sx_dN α a)) (sx_bI (sx_fb α 12 a)) (sx_bI (sx_fb α 14 a)) (sx_bI (sx_fb α 13 a)) (nI (sx_oN α a + 1)) (α 7 a) (K.1 2) (nI (sx_tN α a)) (K.2 0) (K.1 3) (K.2 1) (K.2 2)) := hD.sub [0, 1, 2, 3, 4, 5, 6, 7, 8, 9, 10, 11, 12, 13, 14] (by decide) rfl
        subst hr_6
        refine lv_if_ne (tgt := 40) hx hb d_X_list_34 (by decide) (fun c_9 => ?_) (fun c_9 => ?_)
        · refine lv_aload_n hx hb d_X_list_40 rfl (lv_at hl 1 rfl) ?_
          refine va_get (D := D) (ci := 3) (v := .ref (h 1)) (C := R_X) (T := T_X) (N := 6) hx hb hts iw_X hown hK.1 hP 0 rfl rfl 1 (by decide) (hts _ wd_70) (fun _ h9 => h9) rfl d_X_list_41 ?_
          refine lv_iload_n hx hb d_X_list_44 rfl (lv_at hl 3 rfl) ?_
          refine lv_aload hx hb d_X_list_45 (lv_at hl 0 rfl) ?_
          refine va_getN (D := D) (ci := 0) (v := .ref (g 3)) (C := R_A) (T := T_A) (N := 12) hx hb hts iw_A hown hK.1 hP 9 rfl rfl 3 (by decide) (va_Nw.use rfl (hK.2.1 _ wd_166)) (fun _ h9 => h9) rfl d_X_list_47 ?_
          have hPc : va_P D vwCl (wS cA (g 3) (g 4) (K.1 3) (K.2 1) (K.2 2)) H := hP.sub [12, 13] rfl
          refine vp_callSl (va_runV (As := []) (rest := [.int (nI j), .ref (h 1)]) ⟨hx, hb, hml, hown, hts⟩ (k_taken l D cA (g 3) (g 4) (K.1 3) (K.2 1) (K.2 2) ) (cwV 0 hts (sx_GV wd_121 wd_122 wd_123 wd_4 wd_124) rfl rfl rfl (by decide +kernel) ⟨Nat.le_of_ble_eq_true rfl, Nat.le_of_ble_eq_true rfl⟩) (sx_preV hK hPc (va_recv hK.1 hPc (ci := 2) (q0 := 0) rfl rfl)) rfl rfl hl.1 rfl (lv_room (Nat.le_of_ble_eq_true rfl)) d_X_list_50 ⟨Nat.le_of_ble_eq_true rfl, Nat.le_of_ble_eq_true rfl⟩).run (fun r_11 hr_10 => ?_)
          subst hr_10
          refine lv_iload_n hx hb d_X_list_53 rfl (lv_at hl 4 rfl) ?_
          have hPc : va_P D vwCl (wP cA (h 1) (h 2) (h 3) (h 4) (h 5) (nI n) (α 1) (α 2) ab un) H := hP.sub [1, 2, 3, 4, 5] rfl
          refine vp_callSi (va_runV (As := [.int (nI j), .long ((K.2 1) ||| (K.2 2)), .int ii]) (rest := []) ⟨hx, hb, hml, hown, hts⟩ (k_letter l D cA (h 1) (h 2) (h 3) (h 4) (h 5) n α ab un (by omega) (by omega) hI.2.2.1 (nI j) ((K.2 1) ||| (K.2 2)) ii) (cwV 3 hts (sx_GV wd_317 wd_318 wd_319 wd_3 wd_320) rfl rfl rfl (by decide +kernel) ⟨Nat.le_of_ble_eq_true rfl, Nat.le_of_ble_eq_true rfl⟩) (sx_preV hK hPc (va_recv hK.1 hPc (ci := 1) (q0 := 0) rfl rfl)) rfl rfl hl.1 rfl (lv_room (Nat.le_of_ble_eq_true rfl)) d_X_list_54 ⟨Nat.le_of_ble_eq_true rfl, Nat.le_of_ble_eq_true rfl⟩).run (fun r_13 hr_12 => ?_)
          have hP9 : va_P D vwCl (wXAk cA h g (nI L) (nI na) (sx_bI sb) (nI n) (α 1) (α 2) ab un sv sf sl acts (sx_kA (K.1 0) (K.1 1) (nI (sx_dN α a)) (sx_bI (sx_fb α 12 a)) (sx_bI (sx_fb α 14 a)) (sx_bI (sx_fb α 13 a)) (nI (sx_oN α a + 1)) (α 7 a) (K.1 2) (nI (sx_tN α a)) (K.2 0) (K.1 3) (K.2 1) (K.2 2))) H := hP
          have hD9 : va_D A (wXAk cA h g (nI L) (nI na) (sx_bI sb) (nI n) (α 1) (α 2) ab un sv sf sl acts (sx_kA (K.1 0) (K.1 1) (nI (sx_dN α a)) (sx_bI (sx_fb α 12 a)) (sx_bI (sx_fb α 14 a)) (sx_bI (sx_fb α 13 a)) (nI (sx_oN α a + 1)) (α 7 a) (K.1 2) (nI (sx_tN α a)) (K.2 0) (K.1 3) (K.2 1) (K.2 2))) := hD
          exact W.iret (v := r_13) hx hb hr (fun t ht hW => ⟨⟨r_13, (sx_kA (K.1 0) (K.1 1) (nI (sx_dN α a)) (sx_bI (sx_fb α 12 a)) (sx_bI (sx_fb α 14 a)) (sx_bI (sx_fb α 13 a)) (nI (sx_oN α a + 1)) (α 7 a) (K.1 2) (nI (sx_tN α a)) (K.2 0) (K.1 3) (K.2 1) (K.2 2)), rfl, (sx_fin2 (sx_list_go (i := ii) (sx_ok_t hth (sx_has_nI (by omega) hj) (sx_has0 h1n hn60)) hne) (by rw [hr_12]; exact congrArg (fun f => sx_pick f 58 65 ii) (by funext c; exact sx_lq_eq hI ha hR hW0)) (sx_RA_of hDO htp htsb hW0 e4 e12 e14 e13 (sx_op1 e6) rfl e8)), by rw [ht]; exact hP9, by rw [hAe]; exact hD9⟩, hS.F ht⟩) hS.2.2 d_X_list_57
        · exact absurd c_9 (by decide)
      · have hoE : sx_oN α a = L := by omega
        have heq : α 6 a = nI L := by rw [← e6, hoE]
        have hPc : va_P D vwCl (wA cA (g 0) (g 1) (g 2) (g 3) (g 4) (g 5) (K.1 0) (K.1 1) (nI (sx_dN α a)) (sx_bI (sx_fb α 12 a)) (sx_bI (sx_fb α 14 a)) (sx_bI (sx_fb α 13 a)) (nI (sx_oN α a)) (α 7 a) (K.1 2) (nI (sx_tN α a)) (K.2 0) (K.1 3) (K.2 1) (K.2 2)) s.heap := hP.sub [9, 10, 11, 12, 13, 14] rfl
        have hDc : va_D A (wA cA (g 0) (g 1) (g 2) (g 3) (g 4) (g 5) (K.1 0) (K.1 1) (nI (sx_dN α a)) (sx_bI (sx_fb α 12 a)) (sx_bI (sx_fb α 14 a)) (sx_bI (sx_fb α 13 a)) (nI (sx_oN α a)) (α 7 a) (K.1 2) (nI (sx_tN α a)) (K.2 0) (K.1 3) (K.2 1) (K.2 2)) := hD.sub [9, 10, 11, 12, 13, 14] (by decide) rfl
        refine sx_calli (wr := [(h 0, .inr (3, [.int (nI L), .ref (h 1), .ref (h 6), .ref (h 8), .int (nI na), .int (sx_bI sb)])), (h 1, .inr (1, [.ref (h 2), .ref (h 3), .ref (h 4), .ref (h 5), .int (nI n)])), (h 2, .inl (cA 0, 60, .inl (α 1))), (h 3, .inl (cA 2, 60, .inl (α 2))), (h 4, .inl (cA 3, 60, .inr (.inl ab))), (h 5, .inl (cA 3, 60, .inr (.inl un))), (h 6, .inr (2, [.ref (h 7), .long sf, .long sl])), (h 7, .inl (cA 0, 60, .inl sv)), (h 8, .inl (cA 4, 10, .inr (.inr (.inr (.inr acts)))))]) (va_runV (As := [.int (nI L)]) (rest := []) ⟨hx, hb, hml, hown, hts⟩ (k_opF l D cA s.heap.size (g 0) (g 1) (g 2) (g 3) (g 4) (g 5) (K.1 0) (K.1 1) (nI (sx_dN α a)) (sx_bI (sx_fb α 12 a)) (sx_bI (sx_fb α 14 a)) (sx_bI (sx_fb α 13 a)) (sx_oN α a) (α 7 a) (K.1 2) (nI (sx_tN α a)) (K.2 0) (K.1 3) (K.2 1) (K.2 2) L hoE (by omega)) (cwV 1 hts (sx_GV wd_270 wd_271 wd_272 wd_6 wd_273) rfl rfl rfl (by decide +kernel) ⟨Nat.le_of_ble_eq_true rfl, Nat.le_of_ble_eq_true rfl⟩) (sx_preVw hK hPc hDc (va_recv hK.1 hPc (ci := 0) (q0 := 0) rfl rfl)) rfl rfl hl.1 rfl (lv_room (Nat.le_of_ble_eq_true rfl)) d_X_list_31 ⟨Nat.le_of_ble_eq_true rfl, Nat.le_of_ble_eq_true rfl⟩) hP hD hS hA [9, 10, 11, 12, 13, 14] [0, 1, 2, 3, 4, 5, 6, 7, 8] rfl rfl (by decide) (by decide) (fun r_15 u_16 H locs hr_14 hP hD hS => ?_)
        have hP : va_P D vwCl (wXA cA h g (nI L) (nI na) (sx_bI sb) (nI n) (α 1) (α 2) ab un sv sf sl acts (K.1 0) (K.1 1) (nI (sx_dN α a)) (sx_bI (sx_fb α 12 a)) (sx_bI (sx_fb α 14 a)) (nI 1) (nI (sx_oN α a)) (α 7 a) (K.1 2) (nI (sx_tN α a)) (K.2 0) (K.1 3) (K.2 1) (K.2 2)) H := hP.sub [0, 1, 2, 3, 4, 5, 6, 7, 8, 9, 10, 11, 12, 13, 14] rfl
        have hD : va_D A (wXA cA h g (nI L) (nI na) (sx_bI sb) (nI n) (α 1) (α 2) ab un sv sf sl acts (K.1 0) (K.1 1) (nI (sx_dN α a)) (sx_bI (sx_fb α 12 a)) (sx_bI (sx_fb α 14 a)) (nI 1) (nI (sx_oN α a)) (α 7 a) (K.1 2) (nI (sx_tN α a)) (K.2 0) (K.1 3) (K.2 1) (K.2 2)) := hD.sub [0, 1, 2, 3, 4, 5, 6, 7, 8, 9, 10, 11, 12, 13, 14] (by decide) rfl
        subst hr_14
        refine lv_if_ne (tgt := 40) hx hb d_X_list_34 (by decide) (fun c_17 => ?_) (fun c_17 => ?_)
        · exact absurd c_17 (by decide)
        · refine lv_bipush (v := (-9)) hx hb d_X_list_37 (by decide +kernel) ?_
          have hP9 : va_P D vwCl (wXAk cA h g (nI L) (nI na) (sx_bI sb) (nI n) (α 1) (α 2) ab un sv sf sl acts (sx_kA (K.1 0) (K.1 1) (nI (sx_dN α a)) (sx_bI (sx_fb α 12 a)) (sx_bI (sx_fb α 14 a)) (nI 1) (nI (sx_oN α a)) (α 7 a) (K.1 2) (nI (sx_tN α a)) (K.2 0) (K.1 3) (K.2 1) (K.2 2))) H := hP
          have hD9 : va_D A (wXAk cA h g (nI L) (nI na) (sx_bI sb) (nI n) (α 1) (α 2) ab un sv sf sl acts (sx_kA (K.1 0) (K.1 1) (nI (sx_dN α a)) (sx_bI (sx_fb α 12 a)) (sx_bI (sx_fb α 14 a)) (nI 1) (nI (sx_oN α a)) (α 7 a) (K.1 2) (nI (sx_tN α a)) (K.2 0) (K.1 3) (K.2 1) (K.2 2))) := hD
          exact W.iret (v := (-9)) hx hb hr (fun t ht hW => ⟨⟨(-9), (sx_kA (K.1 0) (K.1 1) (nI (sx_dN α a)) (sx_bI (sx_fb α 12 a)) (sx_bI (sx_fb α 14 a)) (nI 1) (nI (sx_oN α a)) (α 7 a) (K.1 2) (nI (sx_tN α a)) (K.2 0) (K.1 3) (K.2 1) (K.2 2)), rfl, (sx_fin2 (sx_list_lim (i := ii) (sx_ok_t hth c_5 (sx_has0 h1n hn60)) heq) rfl (sx_RA_of hDO htp htsb hW0 e4 e12 e14 (by rw [sx_at]; rfl) e6 rfl e8)), by rw [ht]; exact hP9, by rw [hAe]; exact hD9⟩, hS.F ht⟩) hS.2.2 d_X_list_39
    · have c_5 : (sx_has n p) = false := sx_bI0 c_5
      refine lv_iconst (v := (-1)) hx hb d_X_list_23 (by decide +kernel) ?_
      have hP9 : va_P D vwCl (wXAk cA h g (nI L) (nI na) (sx_bI sb) (nI n) (α 1) (α 2) ab un sv sf sl acts (sx_kA (K.1 0) (K.1 1) (nI (sx_dN α a)) (sx_bI (sx_fb α 12 a)) (sx_bI (sx_fb α 14 a)) (sx_bI (sx_fb α 13 a)) (nI (sx_oN α a)) (α 7 a) (K.1 2) (nI (sx_tN α a)) (K.2 0) (K.1 3) (K.2 1) (K.2 2))) s.heap := hP
      have hD9 : va_D A (wXAk cA h g (nI L) (nI na) (sx_bI sb) (nI n) (α 1) (α 2) ab un sv sf sl acts (sx_kA (K.1 0) (K.1 1) (nI (sx_dN α a)) (sx_bI (sx_fb α 12 a)) (sx_bI (sx_fb α 14 a)) (sx_bI (sx_fb α 13 a)) (nI (sx_oN α a)) (α 7 a) (K.1 2) (nI (sx_tN α a)) (K.2 0) (K.1 3) (K.2 1) (K.2 2))) := hD
      exact W.iret (v := (-1)) hx hb hr (fun t ht hW => ⟨⟨(-1), (sx_kA (K.1 0) (K.1 1) (nI (sx_dN α a)) (sx_bI (sx_fb α 12 a)) (sx_bI (sx_fb α 14 a)) (sx_bI (sx_fb α 13 a)) (nI (sx_oN α a)) (α 7 a) (K.1 2) (nI (sx_tN α a)) (K.2 0) (K.1 3) (K.2 1) (K.2 2)), rfl, (sx_fin2 (sx_list_no (i := ii) (sx_ok_p c_5)) rfl (sx_RA_of hDO htp htsb hW0 e4 e12 e14 e13 e6 rfl e8)), by rw [ht]; exact hP9, by rw [hAe]; exact hD9⟩, hS.F ht⟩) hS.2.2 d_X_list_24
  · refine va_csq (va_runV (As := [.int (nI a)]) (rest := []) ⟨hx, hb, hml, hown, hts⟩ (k_runN l D cA h g (nI L) na (sx_bI sb) (nI n) (α 1) (α 2) ab un sv sf sl acts (K.1 0) (K.1 1) (nI (sx_dN α a)) (sx_fb α 12 a) (sx_bI (sx_fb α 14 a)) (sx_bI (sx_fb α 13 a)) (nI (sx_oN α a)) (α 7 a) (K.1 2) (nI (sx_tN α a)) (K.2 0) (K.1 3) (K.2 1) (K.2 2) a (by omega) (by omega) hacts hth) (cwV 1 hts (sx_GV wd_266 wd_268 ws_4 wd_1 wd_269) rfl rfl rfl (by decide +kernel) ⟨Nat.le_of_ble_eq_true rfl, Nat.le_of_ble_eq_true rfl⟩) (sx_preV hK hP (va_recv hK.1 hP (ci := 3) (q0 := 0) rfl rfl)) rfl rfl hl.1 rfl (lv_room (Nat.le_of_ble_eq_true rfl)) d_X_list_2 ⟨Nat.le_of_ble_eq_true rfl, Nat.le_of_ble_eq_true rfl⟩).run (fun r_19 hr_18 => ?_)
    subst hr_18
    refine sx_asv (y := .null) rfl ?_
    refine lv_astoreN (lv' := [(4, .null), (0, .ref (h 0)), (1, .int (nI a)), (2, .int p), (3, .int ii)]) hx hb d_X_list_5 hl (by decide) rfl (fun ls hl => ?_)
    refine lv_aloadN hx hb d_X_list_7 (lv_at hl 0 rfl) ?_
    refine lv_ifnullN (tgt := 23) hx hb d_X_list_9 (by decide) ?_
    refine lv_iconst (v := (-1)) hx hb d_X_list_23 (by decide +kernel) ?_
    have hP9 : va_P D vwCl (wXAk cA h g (nI L) (nI na) (sx_bI sb) (nI n) (α 1) (α 2) ab un sv sf sl acts (sx_kA (K.1 0) (K.1 1) (nI (sx_dN α a)) (sx_bI (sx_fb α 12 a)) (sx_bI (sx_fb α 14 a)) (sx_bI (sx_fb α 13 a)) (nI (sx_oN α a)) (α 7 a) (K.1 2) (nI (sx_tN α a)) (K.2 0) (K.1 3) (K.2 1) (K.2 2))) s.heap := hP
    have hD9 : va_D A (wXAk cA h g (nI L) (nI na) (sx_bI sb) (nI n) (α 1) (α 2) ab un sv sf sl acts (sx_kA (K.1 0) (K.1 1) (nI (sx_dN α a)) (sx_bI (sx_fb α 12 a)) (sx_bI (sx_fb α 14 a)) (sx_bI (sx_fb α 13 a)) (nI (sx_oN α a)) (α 7 a) (K.1 2) (nI (sx_tN α a)) (K.2 0) (K.1 3) (K.2 1) (K.2 2))) := hD
    exact W.iret (v := (-1)) hx hb hr (fun t ht hW => ⟨⟨(-1), (sx_kA (K.1 0) (K.1 1) (nI (sx_dN α a)) (sx_bI (sx_fb α 12 a)) (sx_bI (sx_fb α 14 a)) (sx_bI (sx_fb α 13 a)) (nI (sx_oN α a)) (α 7 a) (K.1 2) (nI (sx_tN α a)) (K.2 0) (K.1 3) (K.2 1) (K.2 2)), rfl, (sx_fin2 (sx_list_no (i := ii) (sx_ok_th hth)) rfl (sx_RA_of hDO htp htsb hW0 e4 e12 e14 e13 e6 rfl e8)), by rw [ht]; exact hP9, by rw [hAe]; exact hD9⟩, hS.F ht⟩) hS.2.2 d_X_list_24
end
