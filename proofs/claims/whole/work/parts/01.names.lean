/-! Names: classes, fields, methods; the words of the tables by their places; a row decodes each instruction. Written by wip/whole/gen/names.py. -/
def R_A : String := "SandboxTree$Action"
def R_P : String := "SandboxTree$PathTree"
def R_S : String := "SandboxTree$Store"
def R_X : String := "SandboxTree"
def R_M : String := "SandboxTreeModel"
def R_L : String := "SandboxTreeLaw"
def R_J : String := "java/lang/Long"
def T_A : u_T := fun k => match k with
  | 0 => ("SandboxTree$Action", "declaredPaths", "[I", true)
  | 1 => ("SandboxTree$Action", "isOutput", "[Z", true)
  | 2 => ("SandboxTree$Action", "declaredCount", "I", false)
  | 3 => ("SandboxTree$Action", "world", "LSandboxTree$Store;", true)
  | 4 => ("SandboxTree$Action", "worldThere", "Z", false)
  | 5 => ("SandboxTree$Action", "hadWorld", "Z", false)
  | 6 => ("SandboxTree$Action", "broken", "Z", false)
  | 7 => ("SandboxTree$Action", "operations", "I", false)
  | 8 => ("SandboxTree$Action", "refused", "I", false)
  | 9 => ("SandboxTree$Action", "triedPaths", "[I", true)
  | 10 => ("SandboxTree$Action", "triedCount", "I", false)
  | _ => ("SandboxTree$Action", "triedSet", "J", false)
def t_A : Nat → FieldType := fun k => match k with
  | 0 => .array .int
  | 1 => .array .boolean
  | 2 => .int
  | 3 => .object "SandboxTree$Store"
  | 4 => .boolean
  | 5 => .boolean
  | 6 => .boolean
  | 7 => .int
  | 8 => .int
  | 9 => .array .int
  | 10 => .int
  | _ => .long
theorem n_A : ∀ a, a < 12 → ∀ b, b < 12 → a ≠ b → (T_A a).2.1 ≠ (T_A b).2.1 := by decide +kernel
theorem o_A : ∀ k, k < 12 → parseFieldDescriptor (T_A k).2.2.1 = some (t_A k) := by decide +kernel
def T_P : u_T := fun k => match k with
  | 0 => ("SandboxTree$PathTree", "parents", "[I", true)
  | 1 => ("SandboxTree$PathTree", "letters", "[C", true)
  | 2 => ("SandboxTree$PathTree", "aboveSets", "[J", true)
  | 3 => ("SandboxTree$PathTree", "underSets", "[J", true)
  | _ => ("SandboxTree$PathTree", "count", "I", false)
def t_P : Nat → FieldType := fun k => match k with
  | 0 => .array .int
  | 1 => .array .char
  | 2 => .array .long
  | 3 => .array .long
  | _ => .int
theorem n_P : ∀ a, a < 5 → ∀ b, b < 5 → a ≠ b → (T_P a).2.1 ≠ (T_P b).2.1 := by decide +kernel
theorem o_P : ∀ k, k < 5 → parseFieldDescriptor (T_P k).2.2.1 = some (t_P k) := by decide +kernel
def T_S : u_T := fun k => match k with
  | 0 => ("SandboxTree$Store", "values", "[I", true)
  | 1 => ("SandboxTree$Store", "files", "J", false)
  | _ => ("SandboxTree$Store", "links", "J", false)
def t_S : Nat → FieldType := fun k => match k with
  | 0 => .array .int
  | 1 => .long
  | _ => .long
theorem n_S : ∀ a, a < 3 → ∀ b, b < 3 → a ≠ b → (T_S a).2.1 ≠ (T_S b).2.1 := by decide +kernel
theorem o_S : ∀ k, k < 3 → parseFieldDescriptor (T_S k).2.2.1 = some (t_S k) := by decide +kernel
def T_X : u_T := fun k => match k with
  | 0 => ("SandboxTree", "limit", "I", true)
  | 1 => ("SandboxTree", "paths", "LSandboxTree$PathTree;", true)
  | 2 => ("SandboxTree", "sourceFiles", "LSandboxTree$Store;", true)
  | 3 => ("SandboxTree", "actions", "[LSandboxTree$Action;", true)
  | 4 => ("SandboxTree", "actionCount", "I", false)
  | _ => ("SandboxTree", "strictNow", "Z", false)
def t_X : Nat → FieldType := fun k => match k with
  | 0 => .int
  | 1 => .object "SandboxTree$PathTree"
  | 2 => .object "SandboxTree$Store"
  | 3 => .array (.object "SandboxTree$Action")
  | 4 => .int
  | _ => .boolean
theorem n_X : ∀ a, a < 6 → ∀ b, b < 6 → a ≠ b → (T_X a).2.1 ≠ (T_X b).2.1 := by decide +kernel
theorem o_X : ∀ k, k < 6 → parseFieldDescriptor (T_X k).2.2.1 = some (t_X k) := by decide +kernel
def T_M : u_T := fun k => match k with
  | 0 => ("SandboxTreeModel", "most", "I", true)
  | 1 => ("SandboxTreeModel", "code", "I", false)
  | 2 => ("SandboxTreeModel", "paths", "I", false)
  | 3 => ("SandboxTreeModel", "actions", "I", false)
  | 4 => ("SandboxTreeModel", "isStrict", "Z", false)
  | 5 => ("SandboxTreeModel", "parent", "[I", true)
  | 6 => ("SandboxTreeModel", "letter", "[I", true)
  | 7 => ("SandboxTreeModel", "source", "[I", true)
  | 8 => ("SandboxTreeModel", "come", "[I", true)
  | 9 => ("SandboxTreeModel", "declared", "[I", true)
  | 10 => ("SandboxTreeModel", "declaredPath", "[I", true)
  | 11 => ("SandboxTreeModel", "operations", "[I", true)
  | 12 => ("SandboxTreeModel", "refusals", "[I", true)
  | 13 => ("SandboxTreeModel", "triedMany", "[I", true)
  | 14 => ("SandboxTreeModel", "tried", "[I", true)
  | 15 => ("SandboxTreeModel", "world", "[I", true)
  | 16 => ("SandboxTreeModel", "isOutput", "[Z", true)
  | 17 => ("SandboxTreeModel", "isThere", "[Z", true)
  | 18 => ("SandboxTreeModel", "isBroken", "[Z", true)
  | 19 => ("SandboxTreeModel", "wasThere", "[Z", true)
  | _ => ("SandboxTreeModel", "marked", "[Z", true)
def t_M : Nat → FieldType := fun k => match k with
  | 0 => .int
  | 1 => .int
  | 2 => .int
  | 3 => .int
  | 4 => .boolean
  | 5 => .array .int
  | 6 => .array .int
  | 7 => .array .int
  | 8 => .array .int
  | 9 => .array .int
  | 10 => .array .int
  | 11 => .array .int
  | 12 => .array .int
  | 13 => .array .int
  | 14 => .array .int
  | 15 => .array .int
  | 16 => .array .boolean
  | 17 => .array .boolean
  | 18 => .array .boolean
  | 19 => .array .boolean
  | _ => .array .boolean
theorem n_M : ∀ a, a < 21 → ∀ b, b < 21 → a ≠ b → (T_M a).2.1 ≠ (T_M b).2.1 := by decide +kernel
theorem o_M : ∀ k, k < 21 → parseFieldDescriptor (T_M k).2.2.1 = some (t_M k) := by decide +kernel
abbrev vwCl : List vw_C := [(R_A, T_A, 12), (R_P, T_P, 5), (R_S, T_S, 3), (R_X, T_X, 6), (R_M, T_M, 21)]
abbrev b_X_init : ByteArray := prog_1_method_1_code
def y_X_init : MethodName := ⟨R_X, "<init>", "(I)V"⟩
abbrev b_P_init : ByteArray := prog_3_method_1_code
def y_P_init : MethodName := ⟨R_P, "<init>", "()V"⟩
abbrev b_X_only : ByteArray := prog_1_method_29_code
def y_X_only : MethodName := ⟨R_X, "only", "(I)J"⟩
abbrev b_S_init : ByteArray := prog_4_method_1_code
def y_S_init : MethodName := ⟨R_S, "<init>", "()V"⟩
abbrev b_X_path : ByteArray := prog_1_method_2_code
def y_X_path : MethodName := ⟨R_X, "path", "(IC)I"⟩
abbrev b_P_has : ByteArray := prog_3_method_2_code
def y_P_has : MethodName := ⟨R_P, "has", "(I)Z"⟩
abbrev b_X_isLetter : ByteArray := prog_1_method_28_code
def y_X_isLetter : MethodName := ⟨R_X, "isLetter", "(C)Z"⟩
abbrev b_P_find : ByteArray := prog_3_method_3_code
def y_P_find : MethodName := ⟨R_P, "find", "(IC)I"⟩
abbrev b_P_add : ByteArray := prog_3_method_4_code
def y_P_add : MethodName := ⟨R_P, "add", "(IC)I"⟩
abbrev b_X_holds : ByteArray := prog_1_method_30_code
def y_X_holds : MethodName := ⟨R_X, "holds", "(JI)Z"⟩
abbrev b_X_file : ByteArray := prog_1_method_3_code
def y_X_file : MethodName := ⟨R_X, "file", "(II)Z"⟩
abbrev b_P_inTheWayOf : ByteArray := prog_3_method_6_code
def y_P_inTheWayOf : MethodName := ⟨R_P, "inTheWayOf", "(I)J"⟩
abbrev b_S_taken : ByteArray := prog_4_method_2_code
def y_S_taken : MethodName := ⟨R_S, "taken", "()J"⟩
abbrev b_S_takeAway : ByteArray := prog_4_method_5_code
def y_S_takeAway : MethodName := ⟨R_S, "takeAway", "(I)V"⟩
abbrev b_S_putFile : ByteArray := prog_4_method_3_code
def y_S_putFile : MethodName := ⟨R_S, "putFile", "(II)V"⟩
abbrev b_S_canHold : ByteArray := prog_4_method_9_code
def y_S_canHold : MethodName := ⟨R_S, "canHold", "(I)Z"⟩
abbrev b_X_source : ByteArray := prog_1_method_4_code
def y_X_source : MethodName := ⟨R_X, "source", "(I)I"⟩
abbrev b_S_leadsTo : ByteArray := prog_4_method_7_code
def y_S_leadsTo : MethodName := ⟨R_S, "leadsTo", "(I)I"⟩
abbrev b_X_action : ByteArray := prog_1_method_5_code
def y_X_action : MethodName := ⟨R_X, "action", "()I"⟩
abbrev b_A_init : ByteArray := prog_2_method_1_code
def y_A_init : MethodName := ⟨R_A, "<init>", "()V"⟩
abbrev b_X_declare : ByteArray := prog_1_method_6_code
def y_X_declare : MethodName := ⟨R_X, "declare", "(IIZ)I"⟩
abbrev b_X_actionAt : ByteArray := prog_1_method_17_code
def y_X_actionAt : MethodName := ⟨R_X, "actionAt", "(I)LSandboxTree$Action;"⟩
abbrev b_X_touchesDeclared : ByteArray := prog_1_method_19_code
def y_X_touchesDeclared : MethodName := ⟨R_X, "touchesDeclared", "(LSandboxTree$Action;I)Z"⟩
abbrev b_A_addDeclared : ByteArray := prog_2_method_2_code
def y_A_addDeclared : MethodName := ⟨R_A, "addDeclared", "(IZ)V"⟩
abbrev b_X_strict : ByteArray := prog_1_method_7_code
def y_X_strict : MethodName := ⟨R_X, "strict", "(Z)V"⟩
abbrev b_X_begin : ByteArray := prog_1_method_8_code
def y_X_begin : MethodName := ⟨R_X, "begin", "(I)I"⟩
abbrev b_X_lacksInput : ByteArray := prog_1_method_20_code
def y_X_lacksInput : MethodName := ⟨R_X, "lacksInput", "(LSandboxTree$Action;)Z"⟩
abbrev b_P_under : ByteArray := prog_3_method_5_code
def y_P_under : MethodName := ⟨R_P, "under", "(I)J"⟩
abbrev b_A_startWorld : ByteArray := prog_2_method_3_code
def y_A_startWorld : MethodName := ⟨R_A, "startWorld", "()V"⟩
abbrev b_X_underDeclared : ByteArray := prog_1_method_21_code
def y_X_underDeclared : MethodName := ⟨R_X, "underDeclared", "(LSandboxTree$Action;Z)J"⟩
abbrev b_S_copyFiles : ByteArray := prog_4_method_6_code
def y_S_copyFiles : MethodName := ⟨R_S, "copyFiles", "(LSandboxTree$Store;J)V"⟩
abbrev b_J_bitCount : ByteArray := prog_7_method_50_code
def y_J_bitCount : MethodName := ⟨R_J, "bitCount", "(J)I"⟩
abbrev b_X_open : ByteArray := prog_1_method_9_code
def y_X_open : MethodName := ⟨R_X, "open", "(II)I"⟩
abbrev b_X_runningAt : ByteArray := prog_1_method_18_code
def y_X_runningAt : MethodName := ⟨R_X, "runningAt", "(I)LSandboxTree$Action;"⟩
abbrev b_A_startOperation : ByteArray := prog_2_method_4_code
def y_A_startOperation : MethodName := ⟨R_A, "startOperation", "(I)Z"⟩
abbrev b_A_noteTried : ByteArray := prog_2_method_5_code
def y_A_noteTried : MethodName := ⟨R_A, "noteTried", "(I)V"⟩
abbrev b_X_write : ByteArray := prog_1_method_10_code
def y_X_write : MethodName := ⟨R_X, "write", "(III)I"⟩
abbrev b_X_canPut : ByteArray := prog_1_method_24_code
def y_X_canPut : MethodName := ⟨R_X, "canPut", "(LSandboxTree$Action;I)Z"⟩
abbrev b_X_writable : ByteArray := prog_1_method_22_code
def y_X_writable : MethodName := ⟨R_X, "writable", "(LSandboxTree$Action;)J"⟩
abbrev b_X_scratch : ByteArray := prog_1_method_23_code
def y_X_scratch : MethodName := ⟨R_X, "scratch", "(LSandboxTree$Action;)J"⟩
abbrev b_X_refuse : ByteArray := prog_1_method_25_code
def y_X_refuse : MethodName := ⟨R_X, "refuse", "(LSandboxTree$Action;)I"⟩
abbrev b_X_link : ByteArray := prog_1_method_11_code
def y_X_link : MethodName := ⟨R_X, "link", "(III)I"⟩
abbrev b_S_putLink : ByteArray := prog_4_method_4_code
def y_S_putLink : MethodName := ⟨R_S, "putLink", "(II)V"⟩
abbrev b_X_remove : ByteArray := prog_1_method_12_code
def y_X_remove : MethodName := ⟨R_X, "remove", "(II)I"⟩
abbrev b_X_list : ByteArray := prog_1_method_13_code
def y_X_list : MethodName := ⟨R_X, "list", "(III)I"⟩
abbrev b_P_letterInFolder : ByteArray := prog_3_method_9_code
def y_P_letterInFolder : MethodName := ⟨R_P, "letterInFolder", "(IJI)I"⟩
abbrev b_X_finish : ByteArray := prog_1_method_14_code
def y_X_finish : MethodName := ⟨R_X, "finish", "(IZ)I"⟩
abbrev b_X_firstOutputFault : ByteArray := prog_1_method_26_code
def y_X_firstOutputFault : MethodName := ⟨R_X, "firstOutputFault", "(LSandboxTree$Action;)I"⟩
abbrev b_S_hasLooseLink : ByteArray := prog_4_method_8_code
def y_S_hasLooseLink : MethodName := ⟨R_S, "hasLooseLink", "(J)Z"⟩
abbrev b_X_gather : ByteArray := prog_1_method_27_code
def y_X_gather : MethodName := ⟨R_X, "gather", "(LSandboxTree$Action;)I"⟩
abbrev b_P_withAbove : ByteArray := prog_3_method_7_code
def y_P_withAbove : MethodName := ⟨R_P, "withAbove", "(J)J"⟩
abbrev b_P_hasClash : ByteArray := prog_3_method_8_code
def y_P_hasClash : MethodName := ⟨R_P, "hasClash", "(J)Z"⟩
abbrev b_X_tried : ByteArray := prog_1_method_15_code
def y_X_tried : MethodName := ⟨R_X, "tried", "(II)I"⟩
abbrev b_X_about : ByteArray := prog_1_method_16_code
def y_X_about : MethodName := ⟨R_X, "about", "(II)I"⟩
abbrev b_L_cell : ByteArray := method_2_code
def y_L_cell : MethodName := ⟨R_L, "cell", "([II)I"⟩
abbrev b_M_init : ByteArray := prog_6_method_1_code
def y_M_init : MethodName := ⟨R_M, "<init>", "(I)V"⟩
abbrev b_M_path : ByteArray := prog_6_method_7_code
def y_M_path : MethodName := ⟨R_M, "path", "(IC)I"⟩
abbrev b_M_isPath : ByteArray := prog_6_method_3_code
def y_M_isPath : MethodName := ⟨R_M, "isPath", "(I)Z"⟩
abbrev b_M_lower : ByteArray := prog_6_method_5_code
def y_M_lower : MethodName := ⟨R_M, "lower", "(I)I"⟩
abbrev b_M_child : ByteArray := prog_6_method_6_code
def y_M_child : MethodName := ⟨R_M, "child", "(II)I"⟩
abbrev b_M_file : ByteArray := prog_6_method_9_code
def y_M_file : MethodName := ⟨R_M, "file", "(II)Z"⟩
abbrev b_M_isUnder : ByteArray := prog_6_method_8_code
def y_M_isUnder : MethodName := ⟨R_M, "isUnder", "(II)Z"⟩
abbrev b_M_source : ByteArray := prog_6_method_10_code
def y_M_source : MethodName := ⟨R_M, "source", "(I)I"⟩
abbrev b_M_action : ByteArray := prog_6_method_11_code
def y_M_action : MethodName := ⟨R_M, "action", "()I"⟩
abbrev b_M_declare : ByteArray := prog_6_method_12_code
def y_M_declare : MethodName := ⟨R_M, "declare", "(IIZ)I"⟩
abbrev b_M_isAction : ByteArray := prog_6_method_4_code
def y_M_isAction : MethodName := ⟨R_M, "isAction", "(I)Z"⟩
abbrev b_M_strict : ByteArray := prog_6_method_13_code
def y_M_strict : MethodName := ⟨R_M, "strict", "(Z)V"⟩
abbrev b_M_begin : ByteArray := prog_6_method_16_code
def y_M_begin : MethodName := ⟨R_M, "begin", "(I)I"⟩
abbrev b_M_isDeclared : ByteArray := prog_6_method_14_code
def y_M_isDeclared : MethodName := ⟨R_M, "isDeclared", "(IIZ)Z"⟩
abbrev b_M_open : ByteArray := prog_6_method_23_code
def y_M_open : MethodName := ⟨R_M, "open", "(II)I"⟩
abbrev b_M_may : ByteArray := prog_6_method_20_code
def y_M_may : MethodName := ⟨R_M, "may", "(III)I"⟩
abbrev b_M_leads : ByteArray := prog_6_method_19_code
def y_M_leads : MethodName := ⟨R_M, "leads", "(II)I"⟩
abbrev b_M_at : ByteArray := prog_6_method_17_code
def y_M_at : MethodName := ⟨R_M, "at", "(II)I"⟩
abbrev b_M_goal : ByteArray := prog_6_method_18_code
def y_M_goal : MethodName := ⟨R_M, "goal", "(I)I"⟩
abbrev b_M_write : ByteArray := prog_6_method_24_code
def y_M_write : MethodName := ⟨R_M, "write", "(III)I"⟩
abbrev b_M_isWritable : ByteArray := prog_6_method_15_code
def y_M_isWritable : MethodName := ⟨R_M, "isWritable", "(II)Z"⟩
abbrev b_M_isInWay : ByteArray := prog_6_method_21_code
def y_M_isInWay : MethodName := ⟨R_M, "isInWay", "(II)Z"⟩
abbrev b_M_refuse : ByteArray := prog_6_method_22_code
def y_M_refuse : MethodName := ⟨R_M, "refuse", "(I)I"⟩
abbrev b_M_link : ByteArray := prog_6_method_25_code
def y_M_link : MethodName := ⟨R_M, "link", "(III)I"⟩
abbrev b_M_remove : ByteArray := prog_6_method_26_code
def y_M_remove : MethodName := ⟨R_M, "remove", "(II)I"⟩
abbrev b_M_list : ByteArray := prog_6_method_28_code
def y_M_list : MethodName := ⟨R_M, "list", "(III)I"⟩
abbrev b_M_hasUnder : ByteArray := prog_6_method_27_code
def y_M_hasUnder : MethodName := ⟨R_M, "hasUnder", "(II)Z"⟩
abbrev b_M_finish : ByteArray := prog_6_method_33_code
def y_M_finish : MethodName := ⟨R_M, "finish", "(IZ)I"⟩
abbrev b_M_ended : ByteArray := prog_6_method_32_code
def y_M_ended : MethodName := ⟨R_M, "ended", "(IZ)I"⟩
abbrev b_M_isLoose : ByteArray := prog_6_method_29_code
def y_M_isLoose : MethodName := ⟨R_M, "isLoose", "(II)Z"⟩
abbrev b_M_mark : ByteArray := prog_6_method_30_code
def y_M_mark : MethodName := ⟨R_M, "mark", "(I)V"⟩
abbrev b_M_clashes : ByteArray := prog_6_method_31_code
def y_M_clashes : MethodName := ⟨R_M, "clashes", "()Z"⟩
abbrev b_M_tried : ByteArray := prog_6_method_34_code
def y_M_tried : MethodName := ⟨R_M, "tried", "(II)I"⟩
abbrev b_M_about : ByteArray := prog_6_method_35_code
def y_M_about : MethodName := ⟨R_M, "about", "(II)I"⟩
abbrev b_L_law : ByteArray := code
def y_L_law : MethodName := ⟨R_L, "law", "([I)Z"⟩
def sx_gw : List Cond := lw_tbl.filter goodWord
theorem sx_gw_good {w : Cond} (h : w ∈ sx_gw) : goodWord w = true := (List.mem_filter.mp h).2
theorem sx_gw_tbl {w : Cond} (h : w ∈ sx_gw) : w ∈ lw_tbl := (List.mem_filter.mp h).1
theorem sx_wd {w : Cond} (i : Nat) (h : tables_1[i]? = some w) (g : goodWord w = true) : w ∈ sx_gw := List.mem_filter.mpr ⟨List.mem_append_right _ (List.mem_of_getElem? h), g⟩
theorem sx_wsel {w : Cond} (i : Nat) (h : (k2_sels lw_privs)[i]? = some w) (g : goodWord w = true) : w ∈ sx_gw := List.mem_filter.mpr ⟨List.mem_append_left _ (List.mem_of_getElem? h), g⟩
theorem sx_GI {c' : Cond} (h : c' ∈ sx_gw) : GoodIn sx_gw (c' :: sx_gw) := fun w hw => by
  have hm : w ∈ sx_gw := by
    rcases List.mem_cons.mp hw with e | e
    · rw [e]; exact h
    · exact e
  exact ⟨hm, good_of_word (sx_gw_good hm)⟩
theorem sx_GV {own C : String} {idx : Nat} {y : MethodName} {c' : Cond} (h1 : Cond.methodLink own idx y ∈ sx_gw) (h2 : Cond.instanceMethod y ∈ sx_gw) (h3 : Cond.selects C y y ∈ sx_gw) (h4 : Cond.initialized C ∈ sx_gw) (h : c' ∈ sx_gw) : GoodIn sx_gw (wsV own idx C y (c' :: sx_gw)) := fun w hw => by
  have hm : w ∈ sx_gw := by
    unfold wsV at hw
    rcases List.mem_append.mp hw with e | e
    · simp only [List.mem_cons, List.not_mem_nil, or_false] at e
      rcases e with e | e | e | e <;> rw [e] <;> assumption
    · exact ((sx_GI h) w e).1
  exact ⟨hm, good_of_word (sx_gw_good hm)⟩
theorem sx_GS {own : String} {idx : Nat} {y : MethodName} {c' : Cond} (h1 : Cond.methodLink own idx y ∈ sx_gw) (h2 : Cond.static y ∈ sx_gw) (h4 : Cond.initialized y.cls ∈ sx_gw) (h : c' ∈ sx_gw) : GoodIn sx_gw (va_wsS own idx y (c' :: sx_gw)) := fun w hw => by
  have hm : w ∈ sx_gw := by
    unfold va_wsS at hw
    rcases List.mem_append.mp hw with e | e
    · simp only [List.mem_cons, List.not_mem_nil, or_false] at e
      rcases e with e | e | e <;> rw [e] <;> assumption
    · exact ((sx_GI h) w e).1
  exact ⟨hm, good_of_word (sx_gw_good hm)⟩
def sx_isN : Cond → Bool
  | .fieldLinkNest .. => true
  | .methodLinkNest .. => true
  | _ => false
def sx_nws : List Cond := lw_tbl.filter sx_isN
theorem sx_wn {w : Cond} (i : Nat) (h : tables_1[i]? = some w) (g : sx_isN w = true) : w ∈ sx_nws := List.mem_filter.mpr ⟨List.mem_append_right _ (List.mem_of_getElem? h), g⟩
def sx_NW (U : State) : Prop := ∀ w ∈ sx_nws, va_Nw w U
theorem sx_NW.warm {s U : State} (hW : s.WarmedH U.vm) (h : sx_NW s) : sx_NW U := fun w hw => by
  have hf := (List.mem_filter.mp hw).2
  have h1 := h w hw
  cases w <;> first | exact va_Nw.warmF hW h1 | exact va_Nw.warmM hW h1 | (simp [sx_isN] at hf)
theorem sx_NW.same {u U : State} (hv : u.vm = U.vm) (h : sx_NW u) : sx_NW U := fun w hw => by
  have hf := (List.mem_filter.mp hw).2
  have h1 := h w hw
  cases w <;> first | exact va_Nw.same rfl hv h1 | (simp [sx_isN] at hf)
theorem wd_0 : Cond.initialized R_L ∈ sx_gw := sx_wd 0 rfl rfl
theorem wd_1 : Cond.initialized R_X ∈ sx_gw := sx_wd 1 rfl rfl
theorem wd_2 : Cond.initialized "java/lang/Math" ∈ sx_gw := sx_wd 2 rfl rfl
theorem wd_3 : Cond.initialized R_P ∈ sx_gw := sx_wd 3 rfl rfl
theorem wd_4 : Cond.initialized R_S ∈ sx_gw := sx_wd 4 rfl rfl
theorem wd_5 : Cond.initialized R_M ∈ sx_gw := sx_wd 5 rfl rfl
theorem wd_6 : Cond.initialized R_A ∈ sx_gw := sx_wd 6 rfl rfl
theorem wd_7 : Cond.initialized "java/lang/System" ∈ sx_gw := sx_wd 7 rfl rfl
theorem wd_8 : Cond.initialized R_J ∈ sx_gw := sx_wd 8 rfl rfl
theorem wd_9 : Cond.classLink R_L (7 : Nat) R_X ∈ sx_gw := sx_wd 9 rfl rfl
theorem wd_10 : Cond.instantiable R_X (6 : Nat) ∈ sx_gw := sx_wd 10 rfl rfl
theorem wd_11 : Cond.methodLink R_L (15 : Nat) y_X_init ∈ sx_gw := sx_wd 11 rfl rfl
theorem wd_12 : Cond.instanceMethod y_X_init ∈ sx_gw := sx_wd 12 rfl rfl
theorem wd_13 : Cond.code y_X_init b_X_init 2 none ∈ sx_gw := sx_wd 13 rfl rfl
theorem wd_14 : Cond.methodLink R_X (1 : Nat) objectInit ∈ sx_gw := sx_wd 14 rfl rfl
theorem wd_15 : Cond.instanceMethod objectInit ∈ sx_gw := sx_wd 15 rfl rfl
theorem wd_16 : Cond.code objectInit ⟨#[0xb1]⟩ 1 none ∈ sx_gw := sx_wd 16 rfl rfl
theorem wd_17 : Cond.methodLink R_X (9 : Nat) Lib.Math.min.name ∈ sx_gw := sx_wd 17 rfl rfl
theorem wd_18 : Cond.static Lib.Math.min.name ∈ sx_gw := sx_wd 18 rfl rfl
theorem wd_19 : Cond.code Lib.Math.min.name Lib.Math.min.code 2 (some .int) ∈ sx_gw := sx_wd 19 rfl rfl
theorem wd_20 : Cond.methodLink R_X (15 : Nat) Lib.Math.max.name ∈ sx_gw := sx_wd 20 rfl rfl
theorem wd_21 : Cond.static Lib.Math.max.name ∈ sx_gw := sx_wd 21 rfl rfl
theorem wd_22 : Cond.code Lib.Math.max.name Lib.Math.max.code 2 (some .int) ∈ sx_gw := sx_wd 22 rfl rfl
theorem wd_23 : Cond.classLink R_X (22 : Nat) R_P ∈ sx_gw := sx_wd 23 rfl rfl
theorem wd_24 : Cond.instantiable R_P (5 : Nat) ∈ sx_gw := sx_wd 24 rfl rfl
theorem wd_25 : Cond.methodLink R_X (24 : Nat) y_P_init ∈ sx_gw := sx_wd 25 rfl rfl
theorem wd_26 : Cond.instanceMethod y_P_init ∈ sx_gw := sx_wd 26 rfl rfl
theorem wd_27 : Cond.code y_P_init b_P_init 1 none ∈ sx_gw := sx_wd 27 rfl rfl
theorem wd_28 : Cond.methodLink R_P (3 : Nat) objectInit ∈ sx_gw := sx_wd 28 rfl rfl
theorem wd_29 : Cond.methodLinkNest R_P (30 : Nat) y_X_only "SandboxTree" ∈ sx_nws := sx_wn 29 rfl rfl
theorem wd_30 : Cond.static y_X_only ∈ sx_gw := sx_wd 30 rfl rfl
theorem wd_31 : Cond.code y_X_only b_X_only 1 (some .long) ∈ sx_gw := sx_wd 31 rfl rfl
theorem wd_32 : Cond.fieldLink R_P (9 : Nat) "SandboxTree$PathTree" "parents" "[I" ∈ sx_gw := sx_wd 32 rfl rfl
theorem wd_33 : Cond.fieldLink R_P (15 : Nat) "SandboxTree$PathTree" "letters" "[C" ∈ sx_gw := sx_wd 33 rfl rfl
theorem wd_34 : Cond.fieldLink R_P (19 : Nat) "SandboxTree$PathTree" "aboveSets" "[J" ∈ sx_gw := sx_wd 34 rfl rfl
theorem wd_35 : Cond.fieldLink R_P (23 : Nat) "SandboxTree$PathTree" "underSets" "[J" ∈ sx_gw := sx_wd 35 rfl rfl
theorem wd_36 : Cond.fieldLink R_P (26 : Nat) "SandboxTree$PathTree" "count" "I" ∈ sx_gw := sx_wd 36 rfl rfl
theorem wd_37 : Cond.laysFinal "SandboxTree$PathTree" "SandboxTree$PathTree" "parents" "[I" ∈ sx_gw := sx_wd 37 rfl rfl
theorem wd_39 : Cond.laysFinal "SandboxTree$PathTree" "SandboxTree$PathTree" "letters" "[C" ∈ sx_gw := sx_wd 39 rfl rfl
theorem wd_41 : Cond.laysFinal "SandboxTree$PathTree" "SandboxTree$PathTree" "aboveSets" "[J" ∈ sx_gw := sx_wd 41 rfl rfl
theorem wd_43 : Cond.laysFinal "SandboxTree$PathTree" "SandboxTree$PathTree" "underSets" "[J" ∈ sx_gw := sx_wd 43 rfl rfl
theorem wd_45 : Cond.lays "SandboxTree$PathTree" "SandboxTree$PathTree" "count" "I" ∈ sx_gw := sx_wd 45 rfl rfl
theorem wd_48 : Cond.arrayClass .int ∈ sx_gw := sx_wd 48 rfl rfl
theorem wd_49 : Cond.arrayClass .char ∈ sx_gw := sx_wd 49 rfl rfl
theorem wd_50 : Cond.arrayClass .long ∈ sx_gw := sx_wd 50 rfl rfl
theorem wd_51 : Cond.classLink R_X (29 : Nat) R_S ∈ sx_gw := sx_wd 51 rfl rfl
theorem wd_52 : Cond.instantiable R_S (3 : Nat) ∈ sx_gw := sx_wd 52 rfl rfl
theorem wd_53 : Cond.methodLinkNest R_X (31 : Nat) y_S_init "SandboxTree" ∈ sx_nws := sx_wn 53 rfl rfl
theorem wd_54 : Cond.instanceMethod y_S_init ∈ sx_gw := sx_wd 54 rfl rfl
theorem wd_55 : Cond.code y_S_init b_S_init 1 none ∈ sx_gw := sx_wd 55 rfl rfl
theorem wd_56 : Cond.methodLink R_S (3 : Nat) objectInit ∈ sx_gw := sx_wd 56 rfl rfl
theorem wd_57 : Cond.fieldLink R_S (9 : Nat) "SandboxTree$Store" "values" "[I" ∈ sx_gw := sx_wd 57 rfl rfl
theorem wd_58 : Cond.fieldLink R_S (15 : Nat) "SandboxTree$Store" "files" "J" ∈ sx_gw := sx_wd 58 rfl rfl
theorem wd_59 : Cond.fieldLink R_S (19 : Nat) "SandboxTree$Store" "links" "J" ∈ sx_gw := sx_wd 59 rfl rfl
theorem wd_60 : Cond.laysFinal "SandboxTree$Store" "SandboxTree$Store" "values" "[I" ∈ sx_gw := sx_wd 60 rfl rfl
theorem wd_62 : Cond.lays "SandboxTree$Store" "SandboxTree$Store" "files" "J" ∈ sx_gw := sx_wd 62 rfl rfl
theorem wd_64 : Cond.lays "SandboxTree$Store" "SandboxTree$Store" "links" "J" ∈ sx_gw := sx_wd 64 rfl rfl
theorem wd_67 : Cond.classLink R_X (36 : Nat) R_A ∈ sx_gw := sx_wd 67 rfl rfl
theorem wd_69 : Cond.fieldLink R_X (18 : Nat) "SandboxTree" "limit" "I" ∈ sx_gw := sx_wd 69 rfl rfl
theorem wd_70 : Cond.fieldLink R_X (25 : Nat) "SandboxTree" "paths" "LSandboxTree$PathTree;" ∈ sx_gw := sx_wd 70 rfl rfl
theorem wd_71 : Cond.fieldLink R_X (32 : Nat) "SandboxTree" "sourceFiles" "LSandboxTree$Store;" ∈ sx_gw := sx_wd 71 rfl rfl
theorem wd_72 : Cond.fieldLink R_X (38 : Nat) "SandboxTree" "actions" "[LSandboxTree$Action;" ∈ sx_gw := sx_wd 72 rfl rfl
theorem wd_73 : Cond.fieldLink R_X (77 : Nat) "SandboxTree" "actionCount" "I" ∈ sx_gw := sx_wd 73 rfl rfl
theorem wd_74 : Cond.fieldLink R_X (100 : Nat) "SandboxTree" "strictNow" "Z" ∈ sx_gw := sx_wd 74 rfl rfl
theorem wd_75 : Cond.laysFinal "SandboxTree" "SandboxTree" "limit" "I" ∈ sx_gw := sx_wd 75 rfl rfl
theorem wd_77 : Cond.laysFinal "SandboxTree" "SandboxTree" "paths" "LSandboxTree$PathTree;" ∈ sx_gw := sx_wd 77 rfl rfl
theorem wd_79 : Cond.laysFinal "SandboxTree" "SandboxTree" "sourceFiles" "LSandboxTree$Store;" ∈ sx_gw := sx_wd 79 rfl rfl
theorem wd_81 : Cond.laysFinal "SandboxTree" "SandboxTree" "actions" "[LSandboxTree$Action;" ∈ sx_gw := sx_wd 81 rfl rfl
theorem wd_83 : Cond.lays "SandboxTree" "SandboxTree" "actionCount" "I" ∈ sx_gw := sx_wd 83 rfl rfl
theorem wd_85 : Cond.lays "SandboxTree" "SandboxTree" "strictNow" "Z" ∈ sx_gw := sx_wd 85 rfl rfl
theorem wd_88 : Cond.methodLink R_L (21 : Nat) y_X_path ∈ sx_gw := sx_wd 88 rfl rfl
theorem wd_89 : Cond.instanceMethod y_X_path ∈ sx_gw := sx_wd 89 rfl rfl
theorem wd_90 : Cond.selects R_X y_X_path y_X_path ∈ sx_gw := sx_wd 90 rfl rfl
theorem wd_91 : Cond.code y_X_path b_X_path 4 (some .int) ∈ sx_gw := sx_wd 91 rfl rfl
theorem wd_92 : Cond.methodLink R_X (42 : Nat) y_P_has ∈ sx_gw := sx_wd 92 rfl rfl
theorem wd_93 : Cond.instanceMethod y_P_has ∈ sx_gw := sx_wd 93 rfl rfl
theorem wd_94 : Cond.selects R_P y_P_has y_P_has ∈ sx_gw := sx_wd 94 rfl rfl
theorem wd_95 : Cond.code y_P_has b_P_has 2 (some .boolean) ∈ sx_gw := sx_wd 95 rfl rfl
theorem wd_96 : Cond.methodLink R_X (46 : Nat) y_X_isLetter ∈ sx_gw := sx_wd 96 rfl rfl
theorem wd_97 : Cond.static y_X_isLetter ∈ sx_gw := sx_wd 97 rfl rfl
theorem wd_98 : Cond.code y_X_isLetter b_X_isLetter 1 (some .boolean) ∈ sx_gw := sx_wd 98 rfl rfl
theorem wd_99 : Cond.methodLink R_X (50 : Nat) y_P_find ∈ sx_gw := sx_wd 99 rfl rfl
theorem wd_100 : Cond.instanceMethod y_P_find ∈ sx_gw := sx_wd 100 rfl rfl
theorem wd_101 : Cond.selects R_P y_P_find y_P_find ∈ sx_gw := sx_wd 101 rfl rfl
theorem wd_102 : Cond.code y_P_find b_P_find 4 (some .int) ∈ sx_gw := sx_wd 102 rfl rfl
theorem wd_103 : Cond.methodLink R_X (54 : Nat) y_P_add ∈ sx_gw := sx_wd 103 rfl rfl
theorem wd_104 : Cond.instanceMethod y_P_add ∈ sx_gw := sx_wd 104 rfl rfl
theorem wd_105 : Cond.selects R_P y_P_add y_P_add ∈ sx_gw := sx_wd 105 rfl rfl
theorem wd_106 : Cond.code y_P_add b_P_add 5 (some .int) ∈ sx_gw := sx_wd 106 rfl rfl
theorem wd_107 : Cond.methodLink R_P (34 : Nat) y_P_has ∈ sx_gw := sx_wd 107 rfl rfl
theorem wd_108 : Cond.methodLinkNest R_P (38 : Nat) y_X_holds "SandboxTree" ∈ sx_nws := sx_wn 108 rfl rfl
theorem wd_109 : Cond.static y_X_holds ∈ sx_gw := sx_wd 109 rfl rfl
theorem wd_110 : Cond.code y_X_holds b_X_holds 3 (some .boolean) ∈ sx_gw := sx_wd 110 rfl rfl
theorem wd_111 : Cond.methodLink R_X (183 : Nat) y_X_only ∈ sx_gw := sx_wd 111 rfl rfl
theorem wd_112 : Cond.methodLink R_L (26 : Nat) y_X_file ∈ sx_gw := sx_wd 112 rfl rfl
theorem wd_113 : Cond.instanceMethod y_X_file ∈ sx_gw := sx_wd 113 rfl rfl
theorem wd_114 : Cond.selects R_X y_X_file y_X_file ∈ sx_gw := sx_wd 114 rfl rfl
theorem wd_115 : Cond.code y_X_file b_X_file 3 (some .boolean) ∈ sx_gw := sx_wd 115 rfl rfl
theorem wd_116 : Cond.methodLink R_X (57 : Nat) y_P_inTheWayOf ∈ sx_gw := sx_wd 116 rfl rfl
theorem wd_117 : Cond.instanceMethod y_P_inTheWayOf ∈ sx_gw := sx_wd 117 rfl rfl
theorem wd_118 : Cond.selects R_P y_P_inTheWayOf y_P_inTheWayOf ∈ sx_gw := sx_wd 118 rfl rfl
theorem wd_119 : Cond.code y_P_inTheWayOf b_P_inTheWayOf 2 (some .long) ∈ sx_gw := sx_wd 119 rfl rfl
theorem wd_120 : Cond.constantLong R_P (42 : Nat) (-1 : Int64) ∈ sx_gw := sx_wd 120 rfl rfl
theorem wd_121 : Cond.methodLink R_X (61 : Nat) y_S_taken ∈ sx_gw := sx_wd 121 rfl rfl
theorem wd_122 : Cond.instanceMethod y_S_taken ∈ sx_gw := sx_wd 122 rfl rfl
theorem wd_123 : Cond.selects R_S y_S_taken y_S_taken ∈ sx_gw := sx_wd 123 rfl rfl
theorem wd_124 : Cond.code y_S_taken b_S_taken 1 (some .long) ∈ sx_gw := sx_wd 124 rfl rfl
theorem wd_125 : Cond.methodLink R_X (65 : Nat) y_S_takeAway ∈ sx_gw := sx_wd 125 rfl rfl
theorem wd_126 : Cond.instanceMethod y_S_takeAway ∈ sx_gw := sx_wd 126 rfl rfl
theorem wd_127 : Cond.selects R_S y_S_takeAway y_S_takeAway ∈ sx_gw := sx_wd 127 rfl rfl
theorem wd_128 : Cond.code y_S_takeAway b_S_takeAway 2 none ∈ sx_gw := sx_wd 128 rfl rfl
theorem wd_129 : Cond.methodLinkNest R_S (30 : Nat) y_X_only "SandboxTree" ∈ sx_nws := sx_wn 129 rfl rfl
theorem wd_130 : Cond.constantLong R_S (34 : Nat) (-1 : Int64) ∈ sx_gw := sx_wd 130 rfl rfl
theorem wd_131 : Cond.methodLink R_X (69 : Nat) y_S_putFile ∈ sx_gw := sx_wd 131 rfl rfl
theorem wd_132 : Cond.instanceMethod y_S_putFile ∈ sx_gw := sx_wd 132 rfl rfl
theorem wd_133 : Cond.selects R_S y_S_putFile y_S_putFile ∈ sx_gw := sx_wd 133 rfl rfl
theorem wd_134 : Cond.code y_S_putFile b_S_putFile 3 none ∈ sx_gw := sx_wd 134 rfl rfl
theorem wd_135 : Cond.methodLink R_S (22 : Nat) y_S_canHold ∈ sx_gw := sx_wd 135 rfl rfl
theorem wd_136 : Cond.static y_S_canHold ∈ sx_gw := sx_wd 136 rfl rfl
theorem wd_137 : Cond.code y_S_canHold b_S_canHold 1 (some .boolean) ∈ sx_gw := sx_wd 137 rfl rfl
theorem wd_138 : Cond.methodLink R_S (26 : Nat) y_S_takeAway ∈ sx_gw := sx_wd 138 rfl rfl
theorem wd_139 : Cond.methodLink R_L (31 : Nat) y_X_source ∈ sx_gw := sx_wd 139 rfl rfl
theorem wd_140 : Cond.instanceMethod y_X_source ∈ sx_gw := sx_wd 140 rfl rfl
theorem wd_141 : Cond.selects R_X y_X_source y_X_source ∈ sx_gw := sx_wd 141 rfl rfl
theorem wd_142 : Cond.code y_X_source b_X_source 2 (some .int) ∈ sx_gw := sx_wd 142 rfl rfl
theorem wd_143 : Cond.methodLink R_X (73 : Nat) y_S_leadsTo ∈ sx_gw := sx_wd 143 rfl rfl
theorem wd_144 : Cond.instanceMethod y_S_leadsTo ∈ sx_gw := sx_wd 144 rfl rfl
theorem wd_145 : Cond.selects R_S y_S_leadsTo y_S_leadsTo ∈ sx_gw := sx_wd 145 rfl rfl
theorem wd_146 : Cond.code y_S_leadsTo b_S_leadsTo 4 (some .int) ∈ sx_gw := sx_wd 146 rfl rfl
theorem wd_147 : Cond.methodLinkNest R_S (42 : Nat) y_X_holds "SandboxTree" ∈ sx_nws := sx_wn 147 rfl rfl
theorem wd_148 : Cond.methodLink R_L (36 : Nat) y_X_action ∈ sx_gw := sx_wd 148 rfl rfl
theorem wd_149 : Cond.instanceMethod y_X_action ∈ sx_gw := sx_wd 149 rfl rfl
theorem wd_150 : Cond.selects R_X y_X_action y_X_action ∈ sx_gw := sx_wd 150 rfl rfl
theorem wd_151 : Cond.code y_X_action b_X_action 2 (some .int) ∈ sx_gw := sx_wd 151 rfl rfl
theorem wd_152 : Cond.instantiable R_A (12 : Nat) ∈ sx_gw := sx_wd 152 rfl rfl
theorem wd_153 : Cond.methodLinkNest R_X (80 : Nat) y_A_init "SandboxTree" ∈ sx_nws := sx_wn 153 rfl rfl
theorem wd_154 : Cond.instanceMethod y_A_init ∈ sx_gw := sx_wd 154 rfl rfl
theorem wd_155 : Cond.code y_A_init b_A_init 1 none ∈ sx_gw := sx_wd 155 rfl rfl
theorem wd_156 : Cond.methodLink R_A (3 : Nat) objectInit ∈ sx_gw := sx_wd 156 rfl rfl
theorem wd_157 : Cond.classLink R_A (19 : Nat) R_S ∈ sx_gw := sx_wd 157 rfl rfl
theorem wd_158 : Cond.methodLinkNest R_A (21 : Nat) y_S_init "SandboxTree" ∈ sx_nws := sx_wn 158 rfl rfl
theorem wd_159 : Cond.fieldLink R_A (9 : Nat) "SandboxTree$Action" "declaredPaths" "[I" ∈ sx_gw := sx_wd 159 rfl rfl
theorem wd_160 : Cond.fieldLinkNest R_X (186 : Nat) "SandboxTree$Action" "declaredPaths" "[I" "SandboxTree" ∈ sx_nws := sx_wn 160 rfl rfl
theorem wd_161 : Cond.fieldLink R_A (15 : Nat) "SandboxTree$Action" "isOutput" "[Z" ∈ sx_gw := sx_wd 161 rfl rfl
theorem wd_162 : Cond.fieldLinkNest R_X (189 : Nat) "SandboxTree$Action" "isOutput" "[Z" "SandboxTree" ∈ sx_nws := sx_wn 162 rfl rfl
theorem wd_163 : Cond.fieldLink R_A (29 : Nat) "SandboxTree$Action" "declaredCount" "I" ∈ sx_gw := sx_wd 163 rfl rfl
theorem wd_164 : Cond.fieldLinkNest R_X (85 : Nat) "SandboxTree$Action" "declaredCount" "I" "SandboxTree" ∈ sx_nws := sx_wn 164 rfl rfl
theorem wd_165 : Cond.fieldLink R_A (22 : Nat) "SandboxTree$Action" "world" "LSandboxTree$Store;" ∈ sx_gw := sx_wd 165 rfl rfl
theorem wd_166 : Cond.fieldLinkNest R_X (110 : Nat) "SandboxTree$Action" "world" "LSandboxTree$Store;" "SandboxTree" ∈ sx_nws := sx_wn 166 rfl rfl
theorem wd_167 : Cond.fieldLink R_A (33 : Nat) "SandboxTree$Action" "worldThere" "Z" ∈ sx_gw := sx_wd 167 rfl rfl
theorem wd_168 : Cond.fieldLinkNest R_X (88 : Nat) "SandboxTree$Action" "worldThere" "Z" "SandboxTree" ∈ sx_nws := sx_wn 168 rfl rfl
theorem wd_169 : Cond.fieldLink R_A (37 : Nat) "SandboxTree$Action" "hadWorld" "Z" ∈ sx_gw := sx_wd 169 rfl rfl
theorem wd_170 : Cond.fieldLinkNest R_X (174 : Nat) "SandboxTree$Action" "hadWorld" "Z" "SandboxTree" ∈ sx_nws := sx_wn 170 rfl rfl
theorem wd_171 : Cond.fieldLink R_A (40 : Nat) "SandboxTree$Action" "broken" "Z" ∈ sx_gw := sx_wd 171 rfl rfl
theorem wd_172 : Cond.fieldLinkNest R_X (158 : Nat) "SandboxTree$Action" "broken" "Z" "SandboxTree" ∈ sx_nws := sx_wn 172 rfl rfl
theorem wd_173 : Cond.fieldLink R_A (43 : Nat) "SandboxTree$Action" "operations" "I" ∈ sx_gw := sx_wd 173 rfl rfl
theorem wd_174 : Cond.fieldLinkNest R_X (177 : Nat) "SandboxTree$Action" "operations" "I" "SandboxTree" ∈ sx_nws := sx_wn 174 rfl rfl
theorem wd_175 : Cond.fieldLink R_A (46 : Nat) "SandboxTree$Action" "refused" "I" ∈ sx_gw := sx_wd 175 rfl rfl
theorem wd_176 : Cond.fieldLinkNest R_X (180 : Nat) "SandboxTree$Action" "refused" "I" "SandboxTree" ∈ sx_nws := sx_wn 176 rfl rfl
theorem wd_177 : Cond.fieldLink R_A (26 : Nat) "SandboxTree$Action" "triedPaths" "[I" ∈ sx_gw := sx_wd 177 rfl rfl
theorem wd_178 : Cond.fieldLinkNest R_X (170 : Nat) "SandboxTree$Action" "triedPaths" "[I" "SandboxTree" ∈ sx_nws := sx_wn 178 rfl rfl
theorem wd_179 : Cond.fieldLink R_A (49 : Nat) "SandboxTree$Action" "triedCount" "I" ∈ sx_gw := sx_wd 179 rfl rfl
theorem wd_180 : Cond.fieldLinkNest R_X (167 : Nat) "SandboxTree$Action" "triedCount" "I" "SandboxTree" ∈ sx_nws := sx_wn 180 rfl rfl
theorem wd_181 : Cond.fieldLink R_A (52 : Nat) "SandboxTree$Action" "triedSet" "J" ∈ sx_gw := sx_wd 181 rfl rfl
theorem wd_182 : Cond.laysFinal "SandboxTree$Action" "SandboxTree$Action" "declaredPaths" "[I" ∈ sx_gw := sx_wd 182 rfl rfl
theorem wd_184 : Cond.laysFinal "SandboxTree$Action" "SandboxTree$Action" "isOutput" "[Z" ∈ sx_gw := sx_wd 184 rfl rfl
theorem wd_186 : Cond.lays "SandboxTree$Action" "SandboxTree$Action" "declaredCount" "I" ∈ sx_gw := sx_wd 186 rfl rfl
theorem wd_188 : Cond.laysFinal "SandboxTree$Action" "SandboxTree$Action" "world" "LSandboxTree$Store;" ∈ sx_gw := sx_wd 188 rfl rfl
theorem wd_190 : Cond.lays "SandboxTree$Action" "SandboxTree$Action" "worldThere" "Z" ∈ sx_gw := sx_wd 190 rfl rfl
theorem wd_192 : Cond.lays "SandboxTree$Action" "SandboxTree$Action" "hadWorld" "Z" ∈ sx_gw := sx_wd 192 rfl rfl
theorem wd_194 : Cond.lays "SandboxTree$Action" "SandboxTree$Action" "broken" "Z" ∈ sx_gw := sx_wd 194 rfl rfl
theorem wd_196 : Cond.lays "SandboxTree$Action" "SandboxTree$Action" "operations" "I" ∈ sx_gw := sx_wd 196 rfl rfl
theorem wd_198 : Cond.lays "SandboxTree$Action" "SandboxTree$Action" "refused" "I" ∈ sx_gw := sx_wd 198 rfl rfl
theorem wd_200 : Cond.laysFinal "SandboxTree$Action" "SandboxTree$Action" "triedPaths" "[I" ∈ sx_gw := sx_wd 200 rfl rfl
theorem wd_202 : Cond.lays "SandboxTree$Action" "SandboxTree$Action" "triedCount" "I" ∈ sx_gw := sx_wd 202 rfl rfl
theorem wd_204 : Cond.lays "SandboxTree$Action" "SandboxTree$Action" "triedSet" "J" ∈ sx_gw := sx_wd 204 rfl rfl
theorem wd_207 : Cond.arrayClass .boolean ∈ sx_gw := sx_wd 207 rfl rfl
theorem wd_208 : Cond.methodLink R_L (41 : Nat) y_X_declare ∈ sx_gw := sx_wd 208 rfl rfl
theorem wd_209 : Cond.instanceMethod y_X_declare ∈ sx_gw := sx_wd 209 rfl rfl
theorem wd_210 : Cond.selects R_X y_X_declare y_X_declare ∈ sx_gw := sx_wd 210 rfl rfl
theorem wd_211 : Cond.code y_X_declare b_X_declare 5 (some .int) ∈ sx_gw := sx_wd 211 rfl rfl
theorem wd_212 : Cond.methodLink R_X (81 : Nat) y_X_actionAt ∈ sx_gw := sx_wd 212 rfl rfl
theorem wd_214 : Cond.instanceMethod y_X_actionAt ∈ sx_gw := sx_wd 214 rfl rfl
theorem wd_215 : Cond.code y_X_actionAt b_X_actionAt 2 (some (.object "SandboxTree$Action")) ∈ sx_gw := sx_wd 215 rfl rfl
theorem wd_216 : Cond.methodLink R_X (92 : Nat) y_X_touchesDeclared ∈ sx_gw := sx_wd 216 rfl rfl
theorem wd_218 : Cond.instanceMethod y_X_touchesDeclared ∈ sx_gw := sx_wd 218 rfl rfl
theorem wd_219 : Cond.code y_X_touchesDeclared b_X_touchesDeclared 6 (some .boolean) ∈ sx_gw := sx_wd 219 rfl rfl
theorem wd_220 : Cond.methodLink R_X (147 : Nat) y_X_holds ∈ sx_gw := sx_wd 220 rfl rfl
theorem wd_221 : Cond.methodLink R_X (96 : Nat) y_A_addDeclared ∈ sx_gw := sx_wd 221 rfl rfl
theorem wd_222 : Cond.instanceMethod y_A_addDeclared ∈ sx_gw := sx_wd 222 rfl rfl
theorem wd_223 : Cond.selects R_A y_A_addDeclared y_A_addDeclared ∈ sx_gw := sx_wd 223 rfl rfl
theorem wd_224 : Cond.code y_A_addDeclared b_A_addDeclared 3 none ∈ sx_gw := sx_wd 224 rfl rfl
theorem wd_225 : Cond.methodLink R_L (46 : Nat) y_X_strict ∈ sx_gw := sx_wd 225 rfl rfl
theorem wd_226 : Cond.instanceMethod y_X_strict ∈ sx_gw := sx_wd 226 rfl rfl
theorem wd_227 : Cond.selects R_X y_X_strict y_X_strict ∈ sx_gw := sx_wd 227 rfl rfl
theorem wd_228 : Cond.code y_X_strict b_X_strict 2 none ∈ sx_gw := sx_wd 228 rfl rfl
theorem wd_229 : Cond.methodLink R_L (51 : Nat) y_X_begin ∈ sx_gw := sx_wd 229 rfl rfl
theorem wd_230 : Cond.instanceMethod y_X_begin ∈ sx_gw := sx_wd 230 rfl rfl
theorem wd_231 : Cond.selects R_X y_X_begin y_X_begin ∈ sx_gw := sx_wd 231 rfl rfl
theorem wd_232 : Cond.code y_X_begin b_X_begin 3 (some .int) ∈ sx_gw := sx_wd 232 rfl rfl
theorem wd_233 : Cond.methodLink R_X (103 : Nat) y_X_lacksInput ∈ sx_gw := sx_wd 233 rfl rfl
theorem wd_235 : Cond.instanceMethod y_X_lacksInput ∈ sx_gw := sx_wd 235 rfl rfl
theorem wd_236 : Cond.code y_X_lacksInput b_X_lacksInput 5 (some .boolean) ∈ sx_gw := sx_wd 236 rfl rfl
theorem wd_237 : Cond.methodLink R_X (193 : Nat) y_P_under ∈ sx_gw := sx_wd 237 rfl rfl
theorem wd_238 : Cond.instanceMethod y_P_under ∈ sx_gw := sx_wd 238 rfl rfl
theorem wd_239 : Cond.selects R_P y_P_under y_P_under ∈ sx_gw := sx_wd 239 rfl rfl
theorem wd_240 : Cond.code y_P_under b_P_under 2 (some .long) ∈ sx_gw := sx_wd 240 rfl rfl
theorem wd_241 : Cond.methodLink R_X (107 : Nat) y_A_startWorld ∈ sx_gw := sx_wd 241 rfl rfl
theorem wd_242 : Cond.instanceMethod y_A_startWorld ∈ sx_gw := sx_wd 242 rfl rfl
theorem wd_243 : Cond.selects R_A y_A_startWorld y_A_startWorld ∈ sx_gw := sx_wd 243 rfl rfl
theorem wd_244 : Cond.code y_A_startWorld b_A_startWorld 1 none ∈ sx_gw := sx_wd 244 rfl rfl
theorem wd_245 : Cond.methodLink R_X (113 : Nat) y_X_underDeclared ∈ sx_gw := sx_wd 245 rfl rfl
theorem wd_247 : Cond.instanceMethod y_X_underDeclared ∈ sx_gw := sx_wd 247 rfl rfl
theorem wd_248 : Cond.code y_X_underDeclared b_X_underDeclared 6 (some .long) ∈ sx_gw := sx_wd 248 rfl rfl
theorem wd_249 : Cond.methodLink R_X (117 : Nat) y_S_copyFiles ∈ sx_gw := sx_wd 249 rfl rfl
theorem wd_250 : Cond.instanceMethod y_S_copyFiles ∈ sx_gw := sx_wd 250 rfl rfl
theorem wd_251 : Cond.selects R_S y_S_copyFiles y_S_copyFiles ∈ sx_gw := sx_wd 251 rfl rfl
theorem wd_252 : Cond.code y_S_copyFiles b_S_copyFiles 4 none ∈ sx_gw := sx_wd 252 rfl rfl
theorem wd_253 : Cond.methodLink R_S (36 : Nat) arraycopyName ∈ sx_gw := sx_wd 253 rfl rfl
theorem wd_254 : Cond.static arraycopyName ∈ sx_gw := sx_wd 254 rfl rfl
theorem wd_255 : Cond.native arraycopyName ∈ sx_gw := sx_wd 255 rfl rfl
theorem wd_256 : Cond.methodLink R_X (121 : Nat) y_J_bitCount ∈ sx_gw := sx_wd 256 rfl rfl
theorem wd_257 : Cond.static y_J_bitCount ∈ sx_gw := sx_wd 257 rfl rfl
theorem wd_258 : Cond.code y_J_bitCount b_J_bitCount 2 (some .int) ∈ sx_gw := sx_wd 258 rfl rfl
theorem wd_259 : Cond.constantLong R_J (314 : Nat) (6148914691236517205 : Int64) ∈ sx_gw := sx_wd 259 rfl rfl
theorem wd_260 : Cond.constantLong R_J (316 : Nat) (3689348814741910323 : Int64) ∈ sx_gw := sx_wd 260 rfl rfl
theorem wd_261 : Cond.constantLong R_J (318 : Nat) (1085102592571150095 : Int64) ∈ sx_gw := sx_wd 261 rfl rfl
theorem wd_262 : Cond.methodLink R_L (55 : Nat) y_X_open ∈ sx_gw := sx_wd 262 rfl rfl
theorem wd_263 : Cond.instanceMethod y_X_open ∈ sx_gw := sx_wd 263 rfl rfl
theorem wd_264 : Cond.selects R_X y_X_open y_X_open ∈ sx_gw := sx_wd 264 rfl rfl
theorem wd_265 : Cond.code y_X_open b_X_open 5 (some .int) ∈ sx_gw := sx_wd 265 rfl rfl
theorem wd_266 : Cond.methodLink R_X (127 : Nat) y_X_runningAt ∈ sx_gw := sx_wd 266 rfl rfl
theorem wd_268 : Cond.instanceMethod y_X_runningAt ∈ sx_gw := sx_wd 268 rfl rfl
theorem wd_269 : Cond.code y_X_runningAt b_X_runningAt 3 (some (.object "SandboxTree$Action")) ∈ sx_gw := sx_wd 269 rfl rfl
theorem wd_270 : Cond.methodLink R_X (130 : Nat) y_A_startOperation ∈ sx_gw := sx_wd 270 rfl rfl
theorem wd_271 : Cond.instanceMethod y_A_startOperation ∈ sx_gw := sx_wd 271 rfl rfl
theorem wd_272 : Cond.selects R_A y_A_startOperation y_A_startOperation ∈ sx_gw := sx_wd 272 rfl rfl
theorem wd_273 : Cond.code y_A_startOperation b_A_startOperation 2 (some .boolean) ∈ sx_gw := sx_wd 273 rfl rfl
theorem wd_274 : Cond.methodLink R_X (133 : Nat) y_A_noteTried ∈ sx_gw := sx_wd 274 rfl rfl
theorem wd_275 : Cond.instanceMethod y_A_noteTried ∈ sx_gw := sx_wd 275 rfl rfl
theorem wd_276 : Cond.selects R_A y_A_noteTried y_A_noteTried ∈ sx_gw := sx_wd 276 rfl rfl
theorem wd_277 : Cond.code y_A_noteTried b_A_noteTried 2 none ∈ sx_gw := sx_wd 277 rfl rfl
theorem wd_278 : Cond.methodLinkNest R_A (56 : Nat) y_X_holds "SandboxTree" ∈ sx_nws := sx_wn 278 rfl rfl
theorem wd_279 : Cond.methodLinkNest R_A (60 : Nat) y_X_only "SandboxTree" ∈ sx_nws := sx_wn 279 rfl rfl
theorem wd_280 : Cond.methodLink R_L (60 : Nat) y_X_write ∈ sx_gw := sx_wd 280 rfl rfl
theorem wd_281 : Cond.instanceMethod y_X_write ∈ sx_gw := sx_wd 281 rfl rfl
theorem wd_282 : Cond.selects R_X y_X_write y_X_write ∈ sx_gw := sx_wd 282 rfl rfl
theorem wd_283 : Cond.code y_X_write b_X_write 5 (some .int) ∈ sx_gw := sx_wd 283 rfl rfl
theorem wd_284 : Cond.methodLink R_X (136 : Nat) y_X_canPut ∈ sx_gw := sx_wd 284 rfl rfl
theorem wd_286 : Cond.instanceMethod y_X_canPut ∈ sx_gw := sx_wd 286 rfl rfl
theorem wd_287 : Cond.code y_X_canPut b_X_canPut 3 (some .boolean) ∈ sx_gw := sx_wd 287 rfl rfl
theorem wd_288 : Cond.methodLink R_X (143 : Nat) y_X_writable ∈ sx_gw := sx_wd 288 rfl rfl
theorem wd_290 : Cond.instanceMethod y_X_writable ∈ sx_gw := sx_wd 290 rfl rfl
theorem wd_291 : Cond.code y_X_writable b_X_writable 2 (some .long) ∈ sx_gw := sx_wd 291 rfl rfl
theorem wd_292 : Cond.methodLink R_X (196 : Nat) y_X_scratch ∈ sx_gw := sx_wd 292 rfl rfl
theorem wd_294 : Cond.instanceMethod y_X_scratch ∈ sx_gw := sx_wd 294 rfl rfl
theorem wd_295 : Cond.code y_X_scratch b_X_scratch 3 (some .long) ∈ sx_gw := sx_wd 295 rfl rfl
theorem wd_296 : Cond.constantLong R_X (199 : Nat) (-1 : Int64) ∈ sx_gw := sx_wd 296 rfl rfl
theorem wd_297 : Cond.methodLink R_X (139 : Nat) y_X_refuse ∈ sx_gw := sx_wd 297 rfl rfl
theorem wd_299 : Cond.instanceMethod y_X_refuse ∈ sx_gw := sx_wd 299 rfl rfl
theorem wd_300 : Cond.code y_X_refuse b_X_refuse 2 (some .int) ∈ sx_gw := sx_wd 300 rfl rfl
theorem wd_301 : Cond.methodLink R_L (65 : Nat) y_X_link ∈ sx_gw := sx_wd 301 rfl rfl
theorem wd_302 : Cond.instanceMethod y_X_link ∈ sx_gw := sx_wd 302 rfl rfl
theorem wd_303 : Cond.selects R_X y_X_link y_X_link ∈ sx_gw := sx_wd 303 rfl rfl
theorem wd_304 : Cond.code y_X_link b_X_link 7 (some .int) ∈ sx_gw := sx_wd 304 rfl rfl
theorem wd_305 : Cond.methodLink R_X (151 : Nat) y_S_putLink ∈ sx_gw := sx_wd 305 rfl rfl
theorem wd_306 : Cond.instanceMethod y_S_putLink ∈ sx_gw := sx_wd 306 rfl rfl
theorem wd_307 : Cond.selects R_S y_S_putLink y_S_putLink ∈ sx_gw := sx_wd 307 rfl rfl
theorem wd_308 : Cond.code y_S_putLink b_S_putLink 3 none ∈ sx_gw := sx_wd 308 rfl rfl
theorem wd_309 : Cond.methodLink R_L (69 : Nat) y_X_remove ∈ sx_gw := sx_wd 309 rfl rfl
theorem wd_310 : Cond.instanceMethod y_X_remove ∈ sx_gw := sx_wd 310 rfl rfl
theorem wd_311 : Cond.selects R_X y_X_remove y_X_remove ∈ sx_gw := sx_wd 311 rfl rfl
theorem wd_312 : Cond.code y_X_remove b_X_remove 4 (some .int) ∈ sx_gw := sx_wd 312 rfl rfl
theorem wd_313 : Cond.methodLink R_L (73 : Nat) y_X_list ∈ sx_gw := sx_wd 313 rfl rfl
theorem wd_314 : Cond.instanceMethod y_X_list ∈ sx_gw := sx_wd 314 rfl rfl
theorem wd_315 : Cond.selects R_X y_X_list y_X_list ∈ sx_gw := sx_wd 315 rfl rfl
theorem wd_316 : Cond.code y_X_list b_X_list 5 (some .int) ∈ sx_gw := sx_wd 316 rfl rfl
theorem wd_317 : Cond.methodLink R_X (154 : Nat) y_P_letterInFolder ∈ sx_gw := sx_wd 317 rfl rfl
theorem wd_318 : Cond.instanceMethod y_P_letterInFolder ∈ sx_gw := sx_wd 318 rfl rfl
theorem wd_319 : Cond.selects R_P y_P_letterInFolder y_P_letterInFolder ∈ sx_gw := sx_wd 319 rfl rfl
theorem wd_320 : Cond.code y_P_letterInFolder b_P_letterInFolder 9 (some .int) ∈ sx_gw := sx_wd 320 rfl rfl
theorem wd_321 : Cond.methodLink R_L (77 : Nat) y_X_finish ∈ sx_gw := sx_wd 321 rfl rfl
theorem wd_322 : Cond.instanceMethod y_X_finish ∈ sx_gw := sx_wd 322 rfl rfl
theorem wd_323 : Cond.selects R_X y_X_finish y_X_finish ∈ sx_gw := sx_wd 323 rfl rfl
theorem wd_324 : Cond.code y_X_finish b_X_finish 5 (some .int) ∈ sx_gw := sx_wd 324 rfl rfl
theorem wd_325 : Cond.methodLink R_X (161 : Nat) y_X_firstOutputFault ∈ sx_gw := sx_wd 325 rfl rfl
theorem wd_327 : Cond.instanceMethod y_X_firstOutputFault ∈ sx_gw := sx_wd 327 rfl rfl
theorem wd_328 : Cond.code y_X_firstOutputFault b_X_firstOutputFault 6 (some .int) ∈ sx_gw := sx_wd 328 rfl rfl
theorem wd_329 : Cond.methodLink R_X (201 : Nat) y_S_hasLooseLink ∈ sx_gw := sx_wd 329 rfl rfl
theorem wd_330 : Cond.instanceMethod y_S_hasLooseLink ∈ sx_gw := sx_wd 330 rfl rfl
theorem wd_331 : Cond.selects R_S y_S_hasLooseLink y_S_hasLooseLink ∈ sx_gw := sx_wd 331 rfl rfl
theorem wd_332 : Cond.code y_S_hasLooseLink b_S_hasLooseLink 4 (some .boolean) ∈ sx_gw := sx_wd 332 rfl rfl
theorem wd_333 : Cond.methodLink R_S (46 : Nat) y_S_leadsTo ∈ sx_gw := sx_wd 333 rfl rfl
theorem wd_334 : Cond.methodLink R_X (164 : Nat) y_X_gather ∈ sx_gw := sx_wd 334 rfl rfl
theorem wd_336 : Cond.instanceMethod y_X_gather ∈ sx_gw := sx_wd 336 rfl rfl
theorem wd_337 : Cond.code y_X_gather b_X_gather 11 (some .int) ∈ sx_gw := sx_wd 337 rfl rfl
theorem wd_338 : Cond.methodLink R_X (205 : Nat) y_P_withAbove ∈ sx_gw := sx_wd 338 rfl rfl
theorem wd_339 : Cond.instanceMethod y_P_withAbove ∈ sx_gw := sx_wd 339 rfl rfl
theorem wd_340 : Cond.selects R_P y_P_withAbove y_P_withAbove ∈ sx_gw := sx_wd 340 rfl rfl
theorem wd_341 : Cond.code y_P_withAbove b_P_withAbove 6 (some .long) ∈ sx_gw := sx_wd 341 rfl rfl
theorem wd_342 : Cond.methodLink R_X (209 : Nat) y_P_hasClash ∈ sx_gw := sx_wd 342 rfl rfl
theorem wd_343 : Cond.instanceMethod y_P_hasClash ∈ sx_gw := sx_wd 343 rfl rfl
theorem wd_344 : Cond.selects R_P y_P_hasClash y_P_hasClash ∈ sx_gw := sx_wd 344 rfl rfl
theorem wd_345 : Cond.code y_P_hasClash b_P_hasClash 5 (some .boolean) ∈ sx_gw := sx_wd 345 rfl rfl
theorem wd_346 : Cond.methodLink R_P (44 : Nat) y_P_find ∈ sx_gw := sx_wd 346 rfl rfl
theorem wd_347 : Cond.methodLink R_L (82 : Nat) y_X_tried ∈ sx_gw := sx_wd 347 rfl rfl
theorem wd_348 : Cond.instanceMethod y_X_tried ∈ sx_gw := sx_wd 348 rfl rfl
theorem wd_349 : Cond.selects R_X y_X_tried y_X_tried ∈ sx_gw := sx_wd 349 rfl rfl
theorem wd_350 : Cond.code y_X_tried b_X_tried 4 (some .int) ∈ sx_gw := sx_wd 350 rfl rfl
set_option maxRecDepth 20000 in
theorem wd_351 : Cond.methodLink R_L (86 : Nat) y_X_about ∈ sx_gw := sx_wd 351 rfl rfl
set_option maxRecDepth 20000 in
theorem wd_352 : Cond.instanceMethod y_X_about ∈ sx_gw := sx_wd 352 rfl rfl
set_option maxRecDepth 20000 in
theorem wd_353 : Cond.selects R_X y_X_about y_X_about ∈ sx_gw := sx_wd 353 rfl rfl
set_option maxRecDepth 20000 in
theorem wd_354 : Cond.code y_X_about b_X_about 4 (some .int) ∈ sx_gw := sx_wd 354 rfl rfl
set_option maxRecDepth 20000 in
theorem wd_355 : Cond.methodLink R_L (9 : Nat) y_L_cell ∈ sx_gw := sx_wd 355 rfl rfl
set_option maxRecDepth 20000 in
theorem wd_356 : Cond.static y_L_cell ∈ sx_gw := sx_wd 356 rfl rfl
set_option maxRecDepth 20000 in
theorem wd_357 : Cond.code y_L_cell b_L_cell 2 (some .int) ∈ sx_gw := sx_wd 357 rfl rfl
set_option maxRecDepth 20000 in
theorem wd_358 : Cond.classLink R_L (18 : Nat) R_M ∈ sx_gw := sx_wd 358 rfl rfl
set_option maxRecDepth 20000 in
theorem wd_359 : Cond.instantiable R_M (21 : Nat) ∈ sx_gw := sx_wd 359 rfl rfl
set_option maxRecDepth 20000 in
theorem wd_360 : Cond.methodLink R_L (20 : Nat) y_M_init ∈ sx_gw := sx_wd 360 rfl rfl
set_option maxRecDepth 20000 in
theorem wd_361 : Cond.instanceMethod y_M_init ∈ sx_gw := sx_wd 361 rfl rfl
set_option maxRecDepth 20000 in
theorem wd_362 : Cond.code y_M_init b_M_init 2 none ∈ sx_gw := sx_wd 362 rfl rfl
set_option maxRecDepth 20000 in
theorem wd_363 : Cond.methodLink R_M (1 : Nat) objectInit ∈ sx_gw := sx_wd 363 rfl rfl
set_option maxRecDepth 20000 in
theorem wd_364 : Cond.fieldLink R_M (63 : Nat) "SandboxTreeModel" "most" "I" ∈ sx_gw := sx_wd 364 rfl rfl
set_option maxRecDepth 20000 in
theorem wd_365 : Cond.fieldLink R_M (66 : Nat) "SandboxTreeModel" "code" "I" ∈ sx_gw := sx_wd 365 rfl rfl
set_option maxRecDepth 20000 in
theorem wd_366 : Cond.fieldLink R_M (7 : Nat) "SandboxTreeModel" "paths" "I" ∈ sx_gw := sx_wd 366 rfl rfl
set_option maxRecDepth 20000 in
theorem wd_367 : Cond.fieldLink R_M (69 : Nat) "SandboxTreeModel" "actions" "I" ∈ sx_gw := sx_wd 367 rfl rfl
set_option maxRecDepth 20000 in
theorem wd_368 : Cond.fieldLink R_M (91 : Nat) "SandboxTreeModel" "isStrict" "Z" ∈ sx_gw := sx_wd 368 rfl rfl
set_option maxRecDepth 20000 in
theorem wd_369 : Cond.fieldLink R_M (13 : Nat) "SandboxTreeModel" "parent" "[I" ∈ sx_gw := sx_wd 369 rfl rfl
set_option maxRecDepth 20000 in
theorem wd_370 : Cond.fieldLink R_M (17 : Nat) "SandboxTreeModel" "letter" "[I" ∈ sx_gw := sx_wd 370 rfl rfl
set_option maxRecDepth 20000 in
theorem wd_371 : Cond.fieldLink R_M (20 : Nat) "SandboxTreeModel" "source" "[I" ∈ sx_gw := sx_wd 371 rfl rfl
set_option maxRecDepth 20000 in
theorem wd_372 : Cond.fieldLink R_M (23 : Nat) "SandboxTreeModel" "come" "[I" ∈ sx_gw := sx_wd 372 rfl rfl
set_option maxRecDepth 20000 in
theorem wd_373 : Cond.fieldLink R_M (26 : Nat) "SandboxTreeModel" "declared" "[I" ∈ sx_gw := sx_wd 373 rfl rfl
set_option maxRecDepth 20000 in
theorem wd_374 : Cond.fieldLink R_M (29 : Nat) "SandboxTreeModel" "declaredPath" "[I" ∈ sx_gw := sx_wd 374 rfl rfl
set_option maxRecDepth 20000 in
theorem wd_375 : Cond.fieldLink R_M (32 : Nat) "SandboxTreeModel" "operations" "[I" ∈ sx_gw := sx_wd 375 rfl rfl
set_option maxRecDepth 20000 in
theorem wd_376 : Cond.fieldLink R_M (35 : Nat) "SandboxTreeModel" "refusals" "[I" ∈ sx_gw := sx_wd 376 rfl rfl
set_option maxRecDepth 20000 in
theorem wd_377 : Cond.fieldLink R_M (38 : Nat) "SandboxTreeModel" "triedMany" "[I" ∈ sx_gw := sx_wd 377 rfl rfl
set_option maxRecDepth 20000 in
theorem wd_378 : Cond.fieldLink R_M (41 : Nat) "SandboxTreeModel" "tried" "[I" ∈ sx_gw := sx_wd 378 rfl rfl
set_option maxRecDepth 20000 in
theorem wd_379 : Cond.fieldLink R_M (44 : Nat) "SandboxTreeModel" "world" "[I" ∈ sx_gw := sx_wd 379 rfl rfl
set_option maxRecDepth 20000 in
theorem wd_380 : Cond.fieldLink R_M (47 : Nat) "SandboxTreeModel" "isOutput" "[Z" ∈ sx_gw := sx_wd 380 rfl rfl
set_option maxRecDepth 20000 in
theorem wd_381 : Cond.fieldLink R_M (51 : Nat) "SandboxTreeModel" "isThere" "[Z" ∈ sx_gw := sx_wd 381 rfl rfl
set_option maxRecDepth 20000 in
theorem wd_382 : Cond.fieldLink R_M (54 : Nat) "SandboxTreeModel" "isBroken" "[Z" ∈ sx_gw := sx_wd 382 rfl rfl
set_option maxRecDepth 20000 in
theorem wd_383 : Cond.fieldLink R_M (57 : Nat) "SandboxTreeModel" "wasThere" "[Z" ∈ sx_gw := sx_wd 383 rfl rfl
set_option maxRecDepth 20000 in
theorem wd_384 : Cond.fieldLink R_M (60 : Nat) "SandboxTreeModel" "marked" "[Z" ∈ sx_gw := sx_wd 384 rfl rfl
set_option maxRecDepth 20000 in
theorem wd_385 : Cond.laysFinal "SandboxTreeModel" "SandboxTreeModel" "most" "I" ∈ sx_gw := sx_wd 385 rfl rfl
set_option maxRecDepth 20000 in
theorem wd_387 : Cond.lays "SandboxTreeModel" "SandboxTreeModel" "code" "I" ∈ sx_gw := sx_wd 387 rfl rfl
set_option maxRecDepth 20000 in
theorem wd_389 : Cond.lays "SandboxTreeModel" "SandboxTreeModel" "paths" "I" ∈ sx_gw := sx_wd 389 rfl rfl
set_option maxRecDepth 20000 in
theorem wd_391 : Cond.lays "SandboxTreeModel" "SandboxTreeModel" "actions" "I" ∈ sx_gw := sx_wd 391 rfl rfl
set_option maxRecDepth 20000 in
theorem wd_393 : Cond.lays "SandboxTreeModel" "SandboxTreeModel" "isStrict" "Z" ∈ sx_gw := sx_wd 393 rfl rfl
set_option maxRecDepth 20000 in
theorem wd_395 : Cond.laysFinal "SandboxTreeModel" "SandboxTreeModel" "parent" "[I" ∈ sx_gw := sx_wd 395 rfl rfl
set_option maxRecDepth 20000 in
theorem wd_397 : Cond.laysFinal "SandboxTreeModel" "SandboxTreeModel" "letter" "[I" ∈ sx_gw := sx_wd 397 rfl rfl
set_option maxRecDepth 20000 in
theorem wd_399 : Cond.laysFinal "SandboxTreeModel" "SandboxTreeModel" "source" "[I" ∈ sx_gw := sx_wd 399 rfl rfl
set_option maxRecDepth 20000 in
theorem wd_401 : Cond.laysFinal "SandboxTreeModel" "SandboxTreeModel" "come" "[I" ∈ sx_gw := sx_wd 401 rfl rfl
set_option maxRecDepth 20000 in
theorem wd_403 : Cond.laysFinal "SandboxTreeModel" "SandboxTreeModel" "declared" "[I" ∈ sx_gw := sx_wd 403 rfl rfl
set_option maxRecDepth 20000 in
theorem wd_405 : Cond.laysFinal "SandboxTreeModel" "SandboxTreeModel" "declaredPath" "[I" ∈ sx_gw := sx_wd 405 rfl rfl
set_option maxRecDepth 20000 in
theorem wd_407 : Cond.laysFinal "SandboxTreeModel" "SandboxTreeModel" "operations" "[I" ∈ sx_gw := sx_wd 407 rfl rfl
set_option maxRecDepth 20000 in
theorem wd_409 : Cond.laysFinal "SandboxTreeModel" "SandboxTreeModel" "refusals" "[I" ∈ sx_gw := sx_wd 409 rfl rfl
set_option maxRecDepth 20000 in
theorem wd_411 : Cond.laysFinal "SandboxTreeModel" "SandboxTreeModel" "triedMany" "[I" ∈ sx_gw := sx_wd 411 rfl rfl
set_option maxRecDepth 20000 in
theorem wd_413 : Cond.laysFinal "SandboxTreeModel" "SandboxTreeModel" "tried" "[I" ∈ sx_gw := sx_wd 413 rfl rfl
set_option maxRecDepth 20000 in
theorem wd_415 : Cond.laysFinal "SandboxTreeModel" "SandboxTreeModel" "world" "[I" ∈ sx_gw := sx_wd 415 rfl rfl
set_option maxRecDepth 20000 in
theorem wd_417 : Cond.laysFinal "SandboxTreeModel" "SandboxTreeModel" "isOutput" "[Z" ∈ sx_gw := sx_wd 417 rfl rfl
set_option maxRecDepth 20000 in
theorem wd_419 : Cond.laysFinal "SandboxTreeModel" "SandboxTreeModel" "isThere" "[Z" ∈ sx_gw := sx_wd 419 rfl rfl
set_option maxRecDepth 20000 in
theorem wd_421 : Cond.laysFinal "SandboxTreeModel" "SandboxTreeModel" "isBroken" "[Z" ∈ sx_gw := sx_wd 421 rfl rfl
set_option maxRecDepth 20000 in
theorem wd_423 : Cond.laysFinal "SandboxTreeModel" "SandboxTreeModel" "wasThere" "[Z" ∈ sx_gw := sx_wd 423 rfl rfl
set_option maxRecDepth 20000 in
theorem wd_425 : Cond.laysFinal "SandboxTreeModel" "SandboxTreeModel" "marked" "[Z" ∈ sx_gw := sx_wd 425 rfl rfl
set_option maxRecDepth 20000 in
theorem wd_428 : Cond.methodLink R_L (25 : Nat) y_M_path ∈ sx_gw := sx_wd 428 rfl rfl
set_option maxRecDepth 20000 in
theorem wd_429 : Cond.instanceMethod y_M_path ∈ sx_gw := sx_wd 429 rfl rfl
set_option maxRecDepth 20000 in
theorem wd_430 : Cond.selects R_M y_M_path y_M_path ∈ sx_gw := sx_wd 430 rfl rfl
set_option maxRecDepth 20000 in
theorem wd_431 : Cond.code y_M_path b_M_path 4 (some .int) ∈ sx_gw := sx_wd 431 rfl rfl
set_option maxRecDepth 20000 in
theorem wd_432 : Cond.methodLink R_M (72 : Nat) y_M_isPath ∈ sx_gw := sx_wd 432 rfl rfl
set_option maxRecDepth 20000 in
theorem wd_434 : Cond.instanceMethod y_M_isPath ∈ sx_gw := sx_wd 434 rfl rfl
set_option maxRecDepth 20000 in
theorem wd_435 : Cond.code y_M_isPath b_M_isPath 2 (some .boolean) ∈ sx_gw := sx_wd 435 rfl rfl
set_option maxRecDepth 20000 in
theorem wd_436 : Cond.methodLink R_M (76 : Nat) y_M_lower ∈ sx_gw := sx_wd 436 rfl rfl
set_option maxRecDepth 20000 in
theorem wd_437 : Cond.static y_M_lower ∈ sx_gw := sx_wd 437 rfl rfl
set_option maxRecDepth 20000 in
theorem wd_438 : Cond.code y_M_lower b_M_lower 1 (some .int) ∈ sx_gw := sx_wd 438 rfl rfl
set_option maxRecDepth 20000 in
theorem wd_439 : Cond.methodLink R_M (80 : Nat) y_M_child ∈ sx_gw := sx_wd 439 rfl rfl
set_option maxRecDepth 20000 in
theorem wd_441 : Cond.instanceMethod y_M_child ∈ sx_gw := sx_wd 441 rfl rfl
set_option maxRecDepth 20000 in
theorem wd_442 : Cond.code y_M_child b_M_child 5 (some .int) ∈ sx_gw := sx_wd 442 rfl rfl
set_option maxRecDepth 20000 in
theorem wd_443 : Cond.methodLink R_L (30 : Nat) y_M_file ∈ sx_gw := sx_wd 443 rfl rfl
set_option maxRecDepth 20000 in
theorem wd_444 : Cond.instanceMethod y_M_file ∈ sx_gw := sx_wd 444 rfl rfl
set_option maxRecDepth 20000 in
theorem wd_445 : Cond.selects R_M y_M_file y_M_file ∈ sx_gw := sx_wd 445 rfl rfl
set_option maxRecDepth 20000 in
theorem wd_446 : Cond.code y_M_file b_M_file 4 (some .boolean) ∈ sx_gw := sx_wd 446 rfl rfl
set_option maxRecDepth 20000 in
theorem wd_447 : Cond.methodLink R_M (84 : Nat) y_M_isUnder ∈ sx_gw := sx_wd 447 rfl rfl
set_option maxRecDepth 20000 in
theorem wd_449 : Cond.instanceMethod y_M_isUnder ∈ sx_gw := sx_wd 449 rfl rfl
set_option maxRecDepth 20000 in
theorem wd_450 : Cond.code y_M_isUnder b_M_isUnder 4 (some .boolean) ∈ sx_gw := sx_wd 450 rfl rfl
set_option maxRecDepth 20000 in
theorem wd_451 : Cond.methodLink R_L (35 : Nat) y_M_source ∈ sx_gw := sx_wd 451 rfl rfl
set_option maxRecDepth 20000 in
theorem wd_452 : Cond.instanceMethod y_M_source ∈ sx_gw := sx_wd 452 rfl rfl
set_option maxRecDepth 20000 in
theorem wd_453 : Cond.selects R_M y_M_source y_M_source ∈ sx_gw := sx_wd 453 rfl rfl
set_option maxRecDepth 20000 in
theorem wd_454 : Cond.code y_M_source b_M_source 2 (some .int) ∈ sx_gw := sx_wd 454 rfl rfl
set_option maxRecDepth 20000 in
theorem wd_455 : Cond.methodLink R_L (40 : Nat) y_M_action ∈ sx_gw := sx_wd 455 rfl rfl
set_option maxRecDepth 20000 in
theorem wd_456 : Cond.instanceMethod y_M_action ∈ sx_gw := sx_wd 456 rfl rfl
set_option maxRecDepth 20000 in
theorem wd_457 : Cond.selects R_M y_M_action y_M_action ∈ sx_gw := sx_wd 457 rfl rfl
set_option maxRecDepth 20000 in
theorem wd_458 : Cond.code y_M_action b_M_action 1 (some .int) ∈ sx_gw := sx_wd 458 rfl rfl
set_option maxRecDepth 20000 in
theorem wd_459 : Cond.methodLink R_L (45 : Nat) y_M_declare ∈ sx_gw := sx_wd 459 rfl rfl
set_option maxRecDepth 20000 in
theorem wd_460 : Cond.instanceMethod y_M_declare ∈ sx_gw := sx_wd 460 rfl rfl
set_option maxRecDepth 20000 in
theorem wd_461 : Cond.selects R_M y_M_declare y_M_declare ∈ sx_gw := sx_wd 461 rfl rfl
set_option maxRecDepth 20000 in
theorem wd_462 : Cond.code y_M_declare b_M_declare 5 (some .int) ∈ sx_gw := sx_wd 462 rfl rfl
set_option maxRecDepth 20000 in
theorem wd_463 : Cond.methodLink R_M (88 : Nat) y_M_isAction ∈ sx_gw := sx_wd 463 rfl rfl
set_option maxRecDepth 20000 in
theorem wd_465 : Cond.instanceMethod y_M_isAction ∈ sx_gw := sx_wd 465 rfl rfl
set_option maxRecDepth 20000 in
theorem wd_466 : Cond.code y_M_isAction b_M_isAction 2 (some .boolean) ∈ sx_gw := sx_wd 466 rfl rfl
set_option maxRecDepth 20000 in
theorem wd_467 : Cond.methodLink R_L (50 : Nat) y_M_strict ∈ sx_gw := sx_wd 467 rfl rfl
set_option maxRecDepth 20000 in
theorem wd_468 : Cond.instanceMethod y_M_strict ∈ sx_gw := sx_wd 468 rfl rfl
set_option maxRecDepth 20000 in
theorem wd_469 : Cond.selects R_M y_M_strict y_M_strict ∈ sx_gw := sx_wd 469 rfl rfl
set_option maxRecDepth 20000 in
theorem wd_470 : Cond.code y_M_strict b_M_strict 2 none ∈ sx_gw := sx_wd 470 rfl rfl
set_option maxRecDepth 20000 in
theorem wd_471 : Cond.methodLink R_L (54 : Nat) y_M_begin ∈ sx_gw := sx_wd 471 rfl rfl
set_option maxRecDepth 20000 in
theorem wd_472 : Cond.instanceMethod y_M_begin ∈ sx_gw := sx_wd 472 rfl rfl
set_option maxRecDepth 20000 in
theorem wd_473 : Cond.selects R_M y_M_begin y_M_begin ∈ sx_gw := sx_wd 473 rfl rfl
set_option maxRecDepth 20000 in
theorem wd_474 : Cond.code y_M_begin b_M_begin 5 (some .int) ∈ sx_gw := sx_wd 474 rfl rfl
set_option maxRecDepth 20000 in
theorem wd_475 : Cond.methodLink R_M (95 : Nat) y_M_isDeclared ∈ sx_gw := sx_wd 475 rfl rfl
set_option maxRecDepth 20000 in
theorem wd_477 : Cond.instanceMethod y_M_isDeclared ∈ sx_gw := sx_wd 477 rfl rfl
set_option maxRecDepth 20000 in
theorem wd_478 : Cond.code y_M_isDeclared b_M_isDeclared 6 (some .boolean) ∈ sx_gw := sx_wd 478 rfl rfl
set_option maxRecDepth 20000 in
theorem wd_479 : Cond.methodLink R_L (59 : Nat) y_M_open ∈ sx_gw := sx_wd 479 rfl rfl
set_option maxRecDepth 20000 in
theorem wd_480 : Cond.instanceMethod y_M_open ∈ sx_gw := sx_wd 480 rfl rfl
set_option maxRecDepth 20000 in
theorem wd_481 : Cond.selects R_M y_M_open y_M_open ∈ sx_gw := sx_wd 481 rfl rfl
set_option maxRecDepth 20000 in
theorem wd_482 : Cond.code y_M_open b_M_open 7 (some .int) ∈ sx_gw := sx_wd 482 rfl rfl
set_option maxRecDepth 20000 in
theorem wd_483 : Cond.methodLink R_M (105 : Nat) y_M_may ∈ sx_gw := sx_wd 483 rfl rfl
set_option maxRecDepth 20000 in
theorem wd_485 : Cond.instanceMethod y_M_may ∈ sx_gw := sx_wd 485 rfl rfl
set_option maxRecDepth 20000 in
theorem wd_486 : Cond.code y_M_may b_M_may 4 (some .int) ∈ sx_gw := sx_wd 486 rfl rfl
set_option maxRecDepth 20000 in
theorem wd_487 : Cond.methodLink R_M (109 : Nat) y_M_leads ∈ sx_gw := sx_wd 487 rfl rfl
set_option maxRecDepth 20000 in
theorem wd_489 : Cond.instanceMethod y_M_leads ∈ sx_gw := sx_wd 489 rfl rfl
set_option maxRecDepth 20000 in
theorem wd_490 : Cond.code y_M_leads b_M_leads 5 (some .int) ∈ sx_gw := sx_wd 490 rfl rfl
set_option maxRecDepth 20000 in
theorem wd_491 : Cond.methodLink R_M (99 : Nat) y_M_at ∈ sx_gw := sx_wd 491 rfl rfl
set_option maxRecDepth 20000 in
theorem wd_493 : Cond.instanceMethod y_M_at ∈ sx_gw := sx_wd 493 rfl rfl
set_option maxRecDepth 20000 in
theorem wd_494 : Cond.code y_M_at b_M_at 3 (some .int) ∈ sx_gw := sx_wd 494 rfl rfl
set_option maxRecDepth 20000 in
theorem wd_495 : Cond.methodLink R_M (102 : Nat) y_M_goal ∈ sx_gw := sx_wd 495 rfl rfl
set_option maxRecDepth 20000 in
theorem wd_496 : Cond.static y_M_goal ∈ sx_gw := sx_wd 496 rfl rfl
set_option maxRecDepth 20000 in
theorem wd_497 : Cond.code y_M_goal b_M_goal 1 (some .int) ∈ sx_gw := sx_wd 497 rfl rfl
set_option maxRecDepth 20000 in
theorem wd_498 : Cond.methodLink R_L (64 : Nat) y_M_write ∈ sx_gw := sx_wd 498 rfl rfl
set_option maxRecDepth 20000 in
theorem wd_499 : Cond.instanceMethod y_M_write ∈ sx_gw := sx_wd 499 rfl rfl
set_option maxRecDepth 20000 in
theorem wd_500 : Cond.selects R_M y_M_write y_M_write ∈ sx_gw := sx_wd 500 rfl rfl
set_option maxRecDepth 20000 in
theorem wd_501 : Cond.code y_M_write b_M_write 5 (some .int) ∈ sx_gw := sx_wd 501 rfl rfl
set_option maxRecDepth 20000 in
theorem wd_502 : Cond.methodLink R_M (112 : Nat) y_M_isWritable ∈ sx_gw := sx_wd 502 rfl rfl
set_option maxRecDepth 20000 in
theorem wd_504 : Cond.instanceMethod y_M_isWritable ∈ sx_gw := sx_wd 504 rfl rfl
set_option maxRecDepth 20000 in
theorem wd_505 : Cond.code y_M_isWritable b_M_isWritable 4 (some .boolean) ∈ sx_gw := sx_wd 505 rfl rfl
set_option maxRecDepth 20000 in
theorem wd_506 : Cond.methodLink R_M (115 : Nat) y_M_isInWay ∈ sx_gw := sx_wd 506 rfl rfl
set_option maxRecDepth 20000 in
theorem wd_508 : Cond.instanceMethod y_M_isInWay ∈ sx_gw := sx_wd 508 rfl rfl
set_option maxRecDepth 20000 in
theorem wd_509 : Cond.code y_M_isInWay b_M_isInWay 5 (some .boolean) ∈ sx_gw := sx_wd 509 rfl rfl
set_option maxRecDepth 20000 in
theorem wd_510 : Cond.methodLink R_M (118 : Nat) y_M_refuse ∈ sx_gw := sx_wd 510 rfl rfl
set_option maxRecDepth 20000 in
theorem wd_512 : Cond.instanceMethod y_M_refuse ∈ sx_gw := sx_wd 512 rfl rfl
set_option maxRecDepth 20000 in
theorem wd_513 : Cond.code y_M_refuse b_M_refuse 2 (some .int) ∈ sx_gw := sx_wd 513 rfl rfl
set_option maxRecDepth 20000 in
theorem wd_514 : Cond.methodLink R_L (68 : Nat) y_M_link ∈ sx_gw := sx_wd 514 rfl rfl
set_option maxRecDepth 20000 in
theorem wd_515 : Cond.instanceMethod y_M_link ∈ sx_gw := sx_wd 515 rfl rfl
set_option maxRecDepth 20000 in
theorem wd_516 : Cond.selects R_M y_M_link y_M_link ∈ sx_gw := sx_wd 516 rfl rfl
set_option maxRecDepth 20000 in
theorem wd_517 : Cond.code y_M_link b_M_link 5 (some .int) ∈ sx_gw := sx_wd 517 rfl rfl
set_option maxRecDepth 20000 in
theorem wd_518 : Cond.methodLink R_L (72 : Nat) y_M_remove ∈ sx_gw := sx_wd 518 rfl rfl
set_option maxRecDepth 20000 in
theorem wd_519 : Cond.instanceMethod y_M_remove ∈ sx_gw := sx_wd 519 rfl rfl
set_option maxRecDepth 20000 in
theorem wd_520 : Cond.selects R_M y_M_remove y_M_remove ∈ sx_gw := sx_wd 520 rfl rfl
set_option maxRecDepth 20000 in
theorem wd_521 : Cond.code y_M_remove b_M_remove 4 (some .int) ∈ sx_gw := sx_wd 521 rfl rfl
set_option maxRecDepth 20000 in
theorem wd_522 : Cond.methodLink R_L (76 : Nat) y_M_list ∈ sx_gw := sx_wd 522 rfl rfl
set_option maxRecDepth 20000 in
theorem wd_523 : Cond.instanceMethod y_M_list ∈ sx_gw := sx_wd 523 rfl rfl
set_option maxRecDepth 20000 in
theorem wd_524 : Cond.selects R_M y_M_list y_M_list ∈ sx_gw := sx_wd 524 rfl rfl
set_option maxRecDepth 20000 in
theorem wd_525 : Cond.code y_M_list b_M_list 8 (some .int) ∈ sx_gw := sx_wd 525 rfl rfl
set_option maxRecDepth 20000 in
theorem wd_526 : Cond.methodLink R_M (121 : Nat) y_M_hasUnder ∈ sx_gw := sx_wd 526 rfl rfl
set_option maxRecDepth 20000 in
theorem wd_528 : Cond.instanceMethod y_M_hasUnder ∈ sx_gw := sx_wd 528 rfl rfl
set_option maxRecDepth 20000 in
theorem wd_529 : Cond.code y_M_hasUnder b_M_hasUnder 5 (some .boolean) ∈ sx_gw := sx_wd 529 rfl rfl
set_option maxRecDepth 20000 in
theorem wd_530 : Cond.methodLink R_L (81 : Nat) y_M_finish ∈ sx_gw := sx_wd 530 rfl rfl
set_option maxRecDepth 20000 in
theorem wd_531 : Cond.instanceMethod y_M_finish ∈ sx_gw := sx_wd 531 rfl rfl
set_option maxRecDepth 20000 in
theorem wd_532 : Cond.selects R_M y_M_finish y_M_finish ∈ sx_gw := sx_wd 532 rfl rfl
set_option maxRecDepth 20000 in
theorem wd_533 : Cond.code y_M_finish b_M_finish 4 (some .int) ∈ sx_gw := sx_wd 533 rfl rfl
set_option maxRecDepth 20000 in
theorem wd_534 : Cond.methodLink R_M (135 : Nat) y_M_ended ∈ sx_gw := sx_wd 534 rfl rfl
set_option maxRecDepth 20000 in
theorem wd_536 : Cond.instanceMethod y_M_ended ∈ sx_gw := sx_wd 536 rfl rfl
set_option maxRecDepth 20000 in
theorem wd_537 : Cond.code y_M_ended b_M_ended 6 (some .int) ∈ sx_gw := sx_wd 537 rfl rfl
set_option maxRecDepth 20000 in
theorem wd_538 : Cond.methodLink R_M (124 : Nat) y_M_isLoose ∈ sx_gw := sx_wd 538 rfl rfl
set_option maxRecDepth 20000 in
theorem wd_540 : Cond.instanceMethod y_M_isLoose ∈ sx_gw := sx_wd 540 rfl rfl
set_option maxRecDepth 20000 in
theorem wd_541 : Cond.code y_M_isLoose b_M_isLoose 5 (some .boolean) ∈ sx_gw := sx_wd 541 rfl rfl
set_option maxRecDepth 20000 in
theorem wd_542 : Cond.methodLink R_M (127 : Nat) y_M_mark ∈ sx_gw := sx_wd 542 rfl rfl
set_option maxRecDepth 20000 in
theorem wd_544 : Cond.instanceMethod y_M_mark ∈ sx_gw := sx_wd 544 rfl rfl
set_option maxRecDepth 20000 in
theorem wd_545 : Cond.code y_M_mark b_M_mark 4 none ∈ sx_gw := sx_wd 545 rfl rfl
set_option maxRecDepth 20000 in
theorem wd_546 : Cond.methodLink R_M (131 : Nat) y_M_clashes ∈ sx_gw := sx_wd 546 rfl rfl
set_option maxRecDepth 20000 in
theorem wd_548 : Cond.instanceMethod y_M_clashes ∈ sx_gw := sx_wd 548 rfl rfl
set_option maxRecDepth 20000 in
theorem wd_549 : Cond.code y_M_clashes b_M_clashes 4 (some .boolean) ∈ sx_gw := sx_wd 549 rfl rfl
set_option maxRecDepth 20000 in
theorem wd_550 : Cond.methodLink R_L (85 : Nat) y_M_tried ∈ sx_gw := sx_wd 550 rfl rfl
set_option maxRecDepth 20000 in
theorem wd_551 : Cond.instanceMethod y_M_tried ∈ sx_gw := sx_wd 551 rfl rfl
set_option maxRecDepth 20000 in
theorem wd_552 : Cond.selects R_M y_M_tried y_M_tried ∈ sx_gw := sx_wd 552 rfl rfl
set_option maxRecDepth 20000 in
theorem wd_553 : Cond.code y_M_tried b_M_tried 3 (some .int) ∈ sx_gw := sx_wd 553 rfl rfl
set_option maxRecDepth 20000 in
theorem wd_554 : Cond.methodLink R_L (89 : Nat) y_M_about ∈ sx_gw := sx_wd 554 rfl rfl
set_option maxRecDepth 20000 in
theorem wd_555 : Cond.instanceMethod y_M_about ∈ sx_gw := sx_wd 555 rfl rfl
set_option maxRecDepth 20000 in
theorem wd_556 : Cond.selects R_M y_M_about y_M_about ∈ sx_gw := sx_wd 556 rfl rfl
set_option maxRecDepth 20000 in
theorem wd_557 : Cond.code y_M_about b_M_about 3 (some .int) ∈ sx_gw := sx_wd 557 rfl rfl
theorem ws_0 : Cond.selects R_X y_X_actionAt y_X_actionAt ∈ sx_gw := sx_wsel 0 rfl rfl
theorem ws_1 : Cond.selects R_X y_X_touchesDeclared y_X_touchesDeclared ∈ sx_gw := sx_wsel 1 rfl rfl
theorem ws_2 : Cond.selects R_X y_X_lacksInput y_X_lacksInput ∈ sx_gw := sx_wsel 2 rfl rfl
theorem ws_3 : Cond.selects R_X y_X_underDeclared y_X_underDeclared ∈ sx_gw := sx_wsel 3 rfl rfl
theorem ws_4 : Cond.selects R_X y_X_runningAt y_X_runningAt ∈ sx_gw := sx_wsel 4 rfl rfl
theorem ws_5 : Cond.selects R_X y_X_canPut y_X_canPut ∈ sx_gw := sx_wsel 5 rfl rfl
theorem ws_6 : Cond.selects R_X y_X_writable y_X_writable ∈ sx_gw := sx_wsel 6 rfl rfl
theorem ws_7 : Cond.selects R_X y_X_scratch y_X_scratch ∈ sx_gw := sx_wsel 7 rfl rfl
theorem ws_8 : Cond.selects R_X y_X_refuse y_X_refuse ∈ sx_gw := sx_wsel 8 rfl rfl
theorem ws_9 : Cond.selects R_X y_X_firstOutputFault y_X_firstOutputFault ∈ sx_gw := sx_wsel 9 rfl rfl
theorem ws_10 : Cond.selects R_X y_X_gather y_X_gather ∈ sx_gw := sx_wsel 10 rfl rfl
theorem ws_11 : Cond.selects R_M y_M_isPath y_M_isPath ∈ sx_gw := sx_wsel 11 rfl rfl
theorem ws_12 : Cond.selects R_M y_M_child y_M_child ∈ sx_gw := sx_wsel 12 rfl rfl
theorem ws_13 : Cond.selects R_M y_M_isUnder y_M_isUnder ∈ sx_gw := sx_wsel 13 rfl rfl
theorem ws_14 : Cond.selects R_M y_M_isAction y_M_isAction ∈ sx_gw := sx_wsel 14 rfl rfl
theorem ws_15 : Cond.selects R_M y_M_isDeclared y_M_isDeclared ∈ sx_gw := sx_wsel 15 rfl rfl
theorem ws_16 : Cond.selects R_M y_M_may y_M_may ∈ sx_gw := sx_wsel 16 rfl rfl
theorem ws_17 : Cond.selects R_M y_M_leads y_M_leads ∈ sx_gw := sx_wsel 17 rfl rfl
theorem ws_18 : Cond.selects R_M y_M_at y_M_at ∈ sx_gw := sx_wsel 18 rfl rfl
theorem ws_19 : Cond.selects R_M y_M_isWritable y_M_isWritable ∈ sx_gw := sx_wsel 19 rfl rfl
theorem ws_20 : Cond.selects R_M y_M_isInWay y_M_isInWay ∈ sx_gw := sx_wsel 20 rfl rfl
theorem ws_21 : Cond.selects R_M y_M_refuse y_M_refuse ∈ sx_gw := sx_wsel 21 rfl rfl
theorem ws_22 : Cond.selects R_M y_M_hasUnder y_M_hasUnder ∈ sx_gw := sx_wsel 22 rfl rfl
theorem ws_23 : Cond.selects R_M y_M_ended y_M_ended ∈ sx_gw := sx_wsel 23 rfl rfl
theorem ws_24 : Cond.selects R_M y_M_isLoose y_M_isLoose ∈ sx_gw := sx_wsel 24 rfl rfl
theorem ws_25 : Cond.selects R_M y_M_mark y_M_mark ∈ sx_gw := sx_wsel 25 rfl rfl
theorem ws_26 : Cond.selects R_M y_M_clashes y_M_clashes ∈ sx_gw := sx_wsel 26 rfl rfl
theorem iw_A : ∀ w ∈ u_ws R_A T_A 12, w ∈ sx_gw := by
  intro w hw
  obtain ⟨k, hk, rfl⟩ := List.mem_map.mp hw
  have hk := List.mem_range.mp hk
  match k, hk with
  | 0, _ => exact wd_182
  | 1, _ => exact wd_184
  | 2, _ => exact wd_186
  | 3, _ => exact wd_188
  | 4, _ => exact wd_190
  | 5, _ => exact wd_192
  | 6, _ => exact wd_194
  | 7, _ => exact wd_196
  | 8, _ => exact wd_198
  | 9, _ => exact wd_200
  | 10, _ => exact wd_202
  | 11, _ => exact wd_204
  | k + 12, h => exact absurd h (by omega)
theorem iw_P : ∀ w ∈ u_ws R_P T_P 5, w ∈ sx_gw := by
  intro w hw
  obtain ⟨k, hk, rfl⟩ := List.mem_map.mp hw
  have hk := List.mem_range.mp hk
  match k, hk with
  | 0, _ => exact wd_37
  | 1, _ => exact wd_39
  | 2, _ => exact wd_41
  | 3, _ => exact wd_43
  | 4, _ => exact wd_45
  | k + 5, h => exact absurd h (by omega)
theorem iw_S : ∀ w ∈ u_ws R_S T_S 3, w ∈ sx_gw := by
  intro w hw
  obtain ⟨k, hk, rfl⟩ := List.mem_map.mp hw
  have hk := List.mem_range.mp hk
  match k, hk with
  | 0, _ => exact wd_60
  | 1, _ => exact wd_62
  | 2, _ => exact wd_64
  | k + 3, h => exact absurd h (by omega)
theorem iw_X : ∀ w ∈ u_ws R_X T_X 6, w ∈ sx_gw := by
  intro w hw
  obtain ⟨k, hk, rfl⟩ := List.mem_map.mp hw
  have hk := List.mem_range.mp hk
  match k, hk with
  | 0, _ => exact wd_75
  | 1, _ => exact wd_77
  | 2, _ => exact wd_79
  | 3, _ => exact wd_81
  | 4, _ => exact wd_83
  | 5, _ => exact wd_85
  | k + 6, h => exact absurd h (by omega)
theorem iw_M : ∀ w ∈ u_ws R_M T_M 21, w ∈ sx_gw := by
  intro w hw
  obtain ⟨k, hk, rfl⟩ := List.mem_map.mp hw
  have hk := List.mem_range.mp hk
  match k, hk with
  | 0, _ => exact wd_385
  | 1, _ => exact wd_387
  | 2, _ => exact wd_389
  | 3, _ => exact wd_391
  | 4, _ => exact wd_393
  | 5, _ => exact wd_395
  | 6, _ => exact wd_397
  | 7, _ => exact wd_399
  | 8, _ => exact wd_401
  | 9, _ => exact wd_403
  | 10, _ => exact wd_405
  | 11, _ => exact wd_407
  | 12, _ => exact wd_409
  | 13, _ => exact wd_411
  | 14, _ => exact wd_413
  | 15, _ => exact wd_415
  | 16, _ => exact wd_417
  | 17, _ => exact wd_419
  | 18, _ => exact wd_421
  | 19, _ => exact wd_423
  | 20, _ => exact wd_425
  | k + 21, h => exact absurd h (by omega)
abbrev w_X_init : List Cond := Cond.code y_X_init b_X_init 2 none :: sx_gw
abbrev w_P_init : List Cond := Cond.code y_P_init b_P_init 1 none :: sx_gw
abbrev w_X_only : List Cond := Cond.code y_X_only b_X_only 1 (some .long) :: sx_gw
abbrev w_S_init : List Cond := Cond.code y_S_init b_S_init 1 none :: sx_gw
abbrev w_X_path : List Cond := Cond.code y_X_path b_X_path 4 (some .int) :: sx_gw
abbrev w_P_has : List Cond := Cond.code y_P_has b_P_has 2 (some .boolean) :: sx_gw
abbrev w_X_isLetter : List Cond := Cond.code y_X_isLetter b_X_isLetter 1 (some .boolean) :: sx_gw
abbrev w_P_find : List Cond := Cond.code y_P_find b_P_find 4 (some .int) :: sx_gw
abbrev w_P_add : List Cond := Cond.code y_P_add b_P_add 5 (some .int) :: sx_gw
abbrev w_X_holds : List Cond := Cond.code y_X_holds b_X_holds 3 (some .boolean) :: sx_gw
abbrev w_X_file : List Cond := Cond.code y_X_file b_X_file 3 (some .boolean) :: sx_gw
abbrev w_P_inTheWayOf : List Cond := Cond.code y_P_inTheWayOf b_P_inTheWayOf 2 (some .long) :: sx_gw
abbrev w_S_taken : List Cond := Cond.code y_S_taken b_S_taken 1 (some .long) :: sx_gw
abbrev w_S_takeAway : List Cond := Cond.code y_S_takeAway b_S_takeAway 2 none :: sx_gw
abbrev w_S_putFile : List Cond := Cond.code y_S_putFile b_S_putFile 3 none :: sx_gw
abbrev w_S_canHold : List Cond := Cond.code y_S_canHold b_S_canHold 1 (some .boolean) :: sx_gw
abbrev w_X_source : List Cond := Cond.code y_X_source b_X_source 2 (some .int) :: sx_gw
abbrev w_S_leadsTo : List Cond := Cond.code y_S_leadsTo b_S_leadsTo 4 (some .int) :: sx_gw
abbrev w_X_action : List Cond := Cond.code y_X_action b_X_action 2 (some .int) :: sx_gw
abbrev w_A_init : List Cond := Cond.code y_A_init b_A_init 1 none :: sx_gw
abbrev w_X_declare : List Cond := Cond.code y_X_declare b_X_declare 5 (some .int) :: sx_gw
abbrev w_X_actionAt : List Cond := Cond.code y_X_actionAt b_X_actionAt 2 (some (.object "SandboxTree$Action")) :: sx_gw
abbrev w_X_touchesDeclared : List Cond := Cond.code y_X_touchesDeclared b_X_touchesDeclared 6 (some .boolean) :: sx_gw
abbrev w_A_addDeclared : List Cond := Cond.code y_A_addDeclared b_A_addDeclared 3 none :: sx_gw
abbrev w_X_strict : List Cond := Cond.code y_X_strict b_X_strict 2 none :: sx_gw
abbrev w_X_begin : List Cond := Cond.code y_X_begin b_X_begin 3 (some .int) :: sx_gw
abbrev w_X_lacksInput : List Cond := Cond.code y_X_lacksInput b_X_lacksInput 5 (some .boolean) :: sx_gw
abbrev w_P_under : List Cond := Cond.code y_P_under b_P_under 2 (some .long) :: sx_gw
abbrev w_A_startWorld : List Cond := Cond.code y_A_startWorld b_A_startWorld 1 none :: sx_gw
abbrev w_X_underDeclared : List Cond := Cond.code y_X_underDeclared b_X_underDeclared 6 (some .long) :: sx_gw
abbrev w_S_copyFiles : List Cond := Cond.code y_S_copyFiles b_S_copyFiles 4 none :: sx_gw
abbrev w_J_bitCount : List Cond := Cond.code y_J_bitCount b_J_bitCount 2 (some .int) :: sx_gw
abbrev w_X_open : List Cond := Cond.code y_X_open b_X_open 5 (some .int) :: sx_gw
abbrev w_X_runningAt : List Cond := Cond.code y_X_runningAt b_X_runningAt 3 (some (.object "SandboxTree$Action")) :: sx_gw
abbrev w_A_startOperation : List Cond := Cond.code y_A_startOperation b_A_startOperation 2 (some .boolean) :: sx_gw
abbrev w_A_noteTried : List Cond := Cond.code y_A_noteTried b_A_noteTried 2 none :: sx_gw
abbrev w_X_write : List Cond := Cond.code y_X_write b_X_write 5 (some .int) :: sx_gw
abbrev w_X_canPut : List Cond := Cond.code y_X_canPut b_X_canPut 3 (some .boolean) :: sx_gw
abbrev w_X_writable : List Cond := Cond.code y_X_writable b_X_writable 2 (some .long) :: sx_gw
abbrev w_X_scratch : List Cond := Cond.code y_X_scratch b_X_scratch 3 (some .long) :: sx_gw
abbrev w_X_refuse : List Cond := Cond.code y_X_refuse b_X_refuse 2 (some .int) :: sx_gw
abbrev w_X_link : List Cond := Cond.code y_X_link b_X_link 7 (some .int) :: sx_gw
abbrev w_S_putLink : List Cond := Cond.code y_S_putLink b_S_putLink 3 none :: sx_gw
abbrev w_X_remove : List Cond := Cond.code y_X_remove b_X_remove 4 (some .int) :: sx_gw
abbrev w_X_list : List Cond := Cond.code y_X_list b_X_list 5 (some .int) :: sx_gw
abbrev w_P_letterInFolder : List Cond := Cond.code y_P_letterInFolder b_P_letterInFolder 9 (some .int) :: sx_gw
abbrev w_X_finish : List Cond := Cond.code y_X_finish b_X_finish 5 (some .int) :: sx_gw
abbrev w_X_firstOutputFault : List Cond := Cond.code y_X_firstOutputFault b_X_firstOutputFault 6 (some .int) :: sx_gw
abbrev w_S_hasLooseLink : List Cond := Cond.code y_S_hasLooseLink b_S_hasLooseLink 4 (some .boolean) :: sx_gw
abbrev w_X_gather : List Cond := Cond.code y_X_gather b_X_gather 11 (some .int) :: sx_gw
abbrev w_P_withAbove : List Cond := Cond.code y_P_withAbove b_P_withAbove 6 (some .long) :: sx_gw
abbrev w_P_hasClash : List Cond := Cond.code y_P_hasClash b_P_hasClash 5 (some .boolean) :: sx_gw
abbrev w_X_tried : List Cond := Cond.code y_X_tried b_X_tried 4 (some .int) :: sx_gw
abbrev w_X_about : List Cond := Cond.code y_X_about b_X_about 4 (some .int) :: sx_gw
abbrev w_L_cell : List Cond := Cond.code y_L_cell b_L_cell 2 (some .int) :: sx_gw
abbrev w_M_init : List Cond := Cond.code y_M_init b_M_init 2 none :: sx_gw
abbrev w_M_path : List Cond := Cond.code y_M_path b_M_path 4 (some .int) :: sx_gw
abbrev w_M_isPath : List Cond := Cond.code y_M_isPath b_M_isPath 2 (some .boolean) :: sx_gw
abbrev w_M_lower : List Cond := Cond.code y_M_lower b_M_lower 1 (some .int) :: sx_gw
abbrev w_M_child : List Cond := Cond.code y_M_child b_M_child 5 (some .int) :: sx_gw
abbrev w_M_file : List Cond := Cond.code y_M_file b_M_file 4 (some .boolean) :: sx_gw
abbrev w_M_isUnder : List Cond := Cond.code y_M_isUnder b_M_isUnder 4 (some .boolean) :: sx_gw
abbrev w_M_source : List Cond := Cond.code y_M_source b_M_source 2 (some .int) :: sx_gw
abbrev w_M_action : List Cond := Cond.code y_M_action b_M_action 1 (some .int) :: sx_gw
abbrev w_M_declare : List Cond := Cond.code y_M_declare b_M_declare 5 (some .int) :: sx_gw
abbrev w_M_isAction : List Cond := Cond.code y_M_isAction b_M_isAction 2 (some .boolean) :: sx_gw
abbrev w_M_strict : List Cond := Cond.code y_M_strict b_M_strict 2 none :: sx_gw
abbrev w_M_begin : List Cond := Cond.code y_M_begin b_M_begin 5 (some .int) :: sx_gw
abbrev w_M_isDeclared : List Cond := Cond.code y_M_isDeclared b_M_isDeclared 6 (some .boolean) :: sx_gw
abbrev w_M_open : List Cond := Cond.code y_M_open b_M_open 7 (some .int) :: sx_gw
abbrev w_M_may : List Cond := Cond.code y_M_may b_M_may 4 (some .int) :: sx_gw
abbrev w_M_leads : List Cond := Cond.code y_M_leads b_M_leads 5 (some .int) :: sx_gw
abbrev w_M_at : List Cond := Cond.code y_M_at b_M_at 3 (some .int) :: sx_gw
abbrev w_M_goal : List Cond := Cond.code y_M_goal b_M_goal 1 (some .int) :: sx_gw
abbrev w_M_write : List Cond := Cond.code y_M_write b_M_write 5 (some .int) :: sx_gw
abbrev w_M_isWritable : List Cond := Cond.code y_M_isWritable b_M_isWritable 4 (some .boolean) :: sx_gw
abbrev w_M_isInWay : List Cond := Cond.code y_M_isInWay b_M_isInWay 5 (some .boolean) :: sx_gw
abbrev w_M_refuse : List Cond := Cond.code y_M_refuse b_M_refuse 2 (some .int) :: sx_gw
abbrev w_M_link : List Cond := Cond.code y_M_link b_M_link 5 (some .int) :: sx_gw
abbrev w_M_remove : List Cond := Cond.code y_M_remove b_M_remove 4 (some .int) :: sx_gw
abbrev w_M_list : List Cond := Cond.code y_M_list b_M_list 8 (some .int) :: sx_gw
abbrev w_M_hasUnder : List Cond := Cond.code y_M_hasUnder b_M_hasUnder 5 (some .boolean) :: sx_gw
abbrev w_M_finish : List Cond := Cond.code y_M_finish b_M_finish 4 (some .int) :: sx_gw
abbrev w_M_ended : List Cond := Cond.code y_M_ended b_M_ended 6 (some .int) :: sx_gw
abbrev w_M_isLoose : List Cond := Cond.code y_M_isLoose b_M_isLoose 5 (some .boolean) :: sx_gw
abbrev w_M_mark : List Cond := Cond.code y_M_mark b_M_mark 4 none :: sx_gw
abbrev w_M_clashes : List Cond := Cond.code y_M_clashes b_M_clashes 4 (some .boolean) :: sx_gw
abbrev w_M_tried : List Cond := Cond.code y_M_tried b_M_tried 3 (some .int) :: sx_gw
abbrev w_M_about : List Cond := Cond.code y_M_about b_M_about 3 (some .int) :: sx_gw
