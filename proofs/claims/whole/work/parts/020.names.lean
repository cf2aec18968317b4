def RX : String := "MemberFinder"
def RC : String := "MemberFinder$ClassInfo"
def RN : String := "MemberFinder$MemberInfo"
def RY : String := "MemberFinderModel"
def RL : String := "MemberFinderLaw"
def TC : u_T := fun k => match k with
  | 0 => ("MemberFinder$ClassInfo", "number", "I", true)
  | 1 => ("MemberFinder$ClassInfo", "parent", "LMemberFinder$ClassInfo;", true)
  | 2 => ("MemberFinder$ClassInfo", "pack", "I", true)
  | _ => ("MemberFinder$ClassInfo", "latest", "LMemberFinder$MemberInfo;", false)
def tC : Nat → FieldType := fun k => match k with
  | 0 => .int
  | 1 => (.object "MemberFinder$ClassInfo")
  | 2 => .int
  | _ => (.object "MemberFinder$MemberInfo")
theorem nC : ∀ a, a < 4 → ∀ b, b < 4 → a ≠ b → (TC a).2.1 ≠ (TC b).2.1 := by decide +kernel
theorem tC_ok : ∀ k, k < 4 → parseFieldDescriptor (TC k).2.2.1 = some (tC k) := by decide +kernel
def TN : u_T := fun k => match k with
  | 0 => ("MemberFinder$MemberInfo", "home", "LMemberFinder$ClassInfo;", true)
  | 1 => ("MemberFinder$MemberInfo", "kind", "I", true)
  | 2 => ("MemberFinder$MemberInfo", "name", "I", true)
  | 3 => ("MemberFinder$MemberInfo", "type", "I", true)
  | 4 => ("MemberFinder$MemberInfo", "isStatic", "Z", true)
  | 5 => ("MemberFinder$MemberInfo", "isFinal", "Z", true)
  | 6 => ("MemberFinder$MemberInfo", "rights", "I", true)
  | 7 => ("MemberFinder$MemberInfo", "number", "I", false)
  | _ => ("MemberFinder$MemberInfo", "earlier", "LMemberFinder$MemberInfo;", false)
def tN : Nat → FieldType := fun k => match k with
  | 0 => (.object "MemberFinder$ClassInfo")
  | 1 => .int
  | 2 => .int
  | 3 => .int
  | 4 => .boolean
  | 5 => .boolean
  | 6 => .int
  | 7 => .int
  | _ => (.object "MemberFinder$MemberInfo")
theorem nN : ∀ a, a < 9 → ∀ b, b < 9 → a ≠ b → (TN a).2.1 ≠ (TN b).2.1 := by decide +kernel
theorem tN_ok : ∀ k, k < 9 → parseFieldDescriptor (TN k).2.2.1 = some (tN k) := by decide +kernel
def TX : u_T := fun k => match k with
  | 0 => ("MemberFinder", "classes", "[LMemberFinder$ClassInfo;", true)
  | 1 => ("MemberFinder", "classCount", "I", false)
  | 2 => ("MemberFinder", "members", "[LMemberFinder$MemberInfo;", true)
  | 3 => ("MemberFinder", "memberCount", "I", false)
  | 4 => ("MemberFinder", "refusal", "I", false)
  | _ => ("MemberFinder", "linePacks", "[I", true)
def tX : Nat → FieldType := fun k => match k with
  | 0 => (.array (.object "MemberFinder$ClassInfo"))
  | 1 => .int
  | 2 => (.array (.object "MemberFinder$MemberInfo"))
  | 3 => .int
  | 4 => .int
  | _ => (.array .int)
theorem nX : ∀ a, a < 6 → ∀ b, b < 6 → a ≠ b → (TX a).2.1 ≠ (TX b).2.1 := by decide +kernel
theorem tX_ok : ∀ k, k < 6 → parseFieldDescriptor (TX k).2.2.1 = some (tX k) := by decide +kernel
def TY : u_T := fun k => match k with
  | 0 => ("MemberFinderModel", "parent", "[I", true)
  | 1 => ("MemberFinderModel", "pack", "[I", true)
  | 2 => ("MemberFinderModel", "classes", "I", false)
  | 3 => ("MemberFinderModel", "memberClass", "[I", true)
  | 4 => ("MemberFinderModel", "memberName", "[I", true)
  | 5 => ("MemberFinderModel", "rights", "[I", true)
  | 6 => ("MemberFinderModel", "sort", "[I", true)
  | 7 => ("MemberFinderModel", "type", "[I", true)
  | 8 => ("MemberFinderModel", "fixed", "[Z", true)
  | 9 => ("MemberFinderModel", "last", "[Z", true)
  | 10 => ("MemberFinderModel", "members", "I", false)
  | 11 => ("MemberFinderModel", "refused", "I", false)
  | 12 => ("MemberFinderModel", "chain", "[I", true)
  | 13 => ("MemberFinderModel", "links", "I", false)
  | _ => ("MemberFinderModel", "over", "[Z", true)
def tY : Nat → FieldType := fun k => match k with
  | 0 => (.array .int)
  | 1 => (.array .int)
  | 2 => .int
  | 3 => (.array .int)
  | 4 => (.array .int)
  | 5 => (.array .int)
  | 6 => (.array .int)
  | 7 => (.array .int)
  | 8 => (.array .boolean)
  | 9 => (.array .boolean)
  | 10 => .int
  | 11 => .int
  | 12 => (.array .int)
  | 13 => .int
  | _ => (.array .boolean)
theorem nY : ∀ a, a < 15 → ∀ b, b < 15 → a ≠ b → (TY a).2.1 ≠ (TY b).2.1 := by decide +kernel
theorem tY_ok : ∀ k, k < 15 → parseFieldDescriptor (TY k).2.2.1 = some (tY k) := by decide +kernel
abbrev ciC : Nat := 0
abbrev ciN : Nat := 1
abbrev ciX : Nat := 2
abbrev ciY : Nat := 3
abbrev vwCl : List vw_C := [(RC, TC, 4), (RN, TN, 9), (RX, TX, 6), (RY, TY, 15)]
abbrev bX_init : ByteArray := prog_1_method_1_code
def yX_init : MethodName := ⟨RX, "<init>", "()V"⟩
abbrev bX_newClass : ByteArray := prog_1_method_2_code
def yX_newClass : MethodName := ⟨RX, "newClass", "(II)I"⟩
abbrev bX_classAt : ByteArray := prog_1_method_14_code
def yX_classAt : MethodName := ⟨RX, "classAt", "(I)LMemberFinder$ClassInfo;"⟩
abbrev bC_init : ByteArray := prog_2_method_1_code
def yC_init : MethodName := ⟨RC, "<init>", "(ILMemberFinder$ClassInfo;I)V"⟩
abbrev bX_below : ByteArray := prog_1_method_3_code
def yX_below : MethodName := ⟨RX, "below", "(II)Z"⟩
abbrev bC_isBelow : ByteArray := prog_2_method_2_code
def yC_isBelow : MethodName := ⟨RC, "isBelow", "(LMemberFinder$ClassInfo;)Z"⟩
abbrev bX_field : ByteArray := prog_1_method_4_code
def yX_field : MethodName := ⟨RX, "field", "(IIZZI)I"⟩
abbrev bX_refuse : ByteArray := prog_1_method_18_code
def yX_refuse : MethodName := ⟨RX, "refuse", "(I)I"⟩
abbrev bN_init : ByteArray := prog_3_method_1_code
def yN_init : MethodName := ⟨RN, "<init>", "(LMemberFinder$ClassInfo;IIIZZI)V"⟩
abbrev bX_add : ByteArray := prog_1_method_19_code
def yX_add : MethodName := ⟨RX, "add", "(LMemberFinder$ClassInfo;LMemberFinder$MemberInfo;)I"⟩
abbrev bX_refusalOfNew : ByteArray := prog_1_method_20_code
def yX_refusalOfNew : MethodName := ⟨RX, "refusalOfNew", "(LMemberFinder$ClassInfo;LMemberFinder$MemberInfo;)I"⟩
abbrev bX_isName : ByteArray := prog_1_method_16_code
def yX_isName : MethodName := ⟨RX, "isName", "(I)Z"⟩
abbrev bX_isRights : ByteArray := prog_1_method_17_code
def yX_isRights : MethodName := ⟨RX, "isRights", "(I)Z"⟩
abbrev bC_own : ByteArray := prog_2_method_3_code
def yC_own : MethodName := ⟨RC, "own", "(III)LMemberFinder$MemberInfo;"⟩
abbrev bX_isForbiddenFromAbove : ByteArray := prog_1_method_21_code
def yX_isForbiddenFromAbove : MethodName := ⟨RX, "isForbiddenFromAbove", "(LMemberFinder$ClassInfo;LMemberFinder$MemberInfo;)Z"⟩
abbrev bC_ownObjectMethod : ByteArray := prog_2_method_4_code
def yC_ownObjectMethod : MethodName := ⟨RC, "ownObjectMethod", "(II)LMemberFinder$MemberInfo;"⟩
abbrev bN_isReachedBy : ByteArray := prog_3_method_3_code
def yN_isReachedBy : MethodName := ⟨RN, "isReachedBy", "(LMemberFinder$ClassInfo;)Z"⟩
abbrev bX_overridesMethod : ByteArray := prog_1_method_23_code
def yX_overridesMethod : MethodName := ⟨RX, "overridesMethod", "(LMemberFinder$MemberInfo;LMemberFinder$MemberInfo;)Z"⟩
abbrev bX_isOverriddenByLine : ByteArray := prog_1_method_24_code
def yX_isOverriddenByLine : MethodName := ⟨RX, "isOverriddenByLine", "(LMemberFinder$MemberInfo;I)Z"⟩
abbrev bX_method : ByteArray := prog_1_method_5_code
def yX_method : MethodName := ⟨RX, "method", "(IIIZZI)I"⟩
abbrev bX_maker : ByteArray := prog_1_method_6_code
def yX_maker : MethodName := ⟨RX, "maker", "(III)I"⟩
abbrev bX_find : ByteArray := prog_1_method_7_code
def yX_find : MethodName := ⟨RX, "find", "(IIIII)I"⟩
abbrev bX_firstAsTold : ByteArray := prog_1_method_22_code
def yX_firstAsTold : MethodName := ⟨RX, "firstAsTold", "(LMemberFinder$ClassInfo;III)LMemberFinder$MemberInfo;"⟩
abbrev bX_refused : ByteArray := prog_1_method_8_code
def yX_refused : MethodName := ⟨RX, "refused", "()I"⟩
abbrev bX_reaches : ByteArray := prog_1_method_9_code
def yX_reaches : MethodName := ⟨RX, "reaches", "(II)Z"⟩
abbrev bX_memberAt : ByteArray := prog_1_method_15_code
def yX_memberAt : MethodName := ⟨RX, "memberAt", "(I)LMemberFinder$MemberInfo;"⟩
abbrev bX_called : ByteArray := prog_1_method_10_code
def yX_called : MethodName := ⟨RX, "called", "(II)I"⟩
abbrev bN_isObjectMethod : ByteArray := prog_3_method_2_code
def yN_isObjectMethod : MethodName := ⟨RN, "isObjectMethod", "()Z"⟩
abbrev bX_calledMethod : ByteArray := prog_1_method_25_code
def yX_calledMethod : MethodName := ⟨RX, "calledMethod", "(LMemberFinder$MemberInfo;LMemberFinder$ClassInfo;)LMemberFinder$MemberInfo;"⟩
abbrev bX_overrides : ByteArray := prog_1_method_11_code
def yX_overrides : MethodName := ⟨RX, "overrides", "(II)Z"⟩
abbrev bX_member : ByteArray := prog_1_method_12_code
def yX_member : MethodName := ⟨RX, "member", "(II)I"⟩
abbrev bX_seen : ByteArray := prog_1_method_13_code
def yX_seen : MethodName := ⟨RX, "seen", "(II)I"⟩
abbrev bX_isHidden : ByteArray := prog_1_method_26_code
def yX_isHidden : MethodName := ⟨RX, "isHidden", "(LMemberFinder$MemberInfo;LMemberFinder$ClassInfo;)Z"⟩
abbrev bY_init : ByteArray := prog_5_method_1_code
def yY_init : MethodName := ⟨RY, "<init>", "()V"⟩
abbrev bY_newClass : ByteArray := prog_5_method_8_code
def yY_newClass : MethodName := ⟨RY, "newClass", "(II)I"⟩
abbrev bY_isClass : ByteArray := prog_5_method_3_code
def yY_isClass : MethodName := ⟨RY, "isClass", "(I)Z"⟩
abbrev bY_below : ByteArray := prog_5_method_9_code
def yY_below : MethodName := ⟨RY, "below", "(II)Z"⟩
abbrev bY_isBelow : ByteArray := prog_5_method_5_code
def yY_isBelow : MethodName := ⟨RY, "isBelow", "(II)Z"⟩
abbrev bY_field : ByteArray := prog_5_method_13_code
def yY_field : MethodName := ⟨RY, "field", "(IIZZI)I"⟩
abbrev bY_refuse : ByteArray := prog_5_method_7_code
def yY_refuse : MethodName := ⟨RY, "refuse", "(I)I"⟩
abbrev bY_outside : ByteArray := prog_5_method_12_code
def yY_outside : MethodName := ⟨RY, "outside", "(II)Z"⟩
abbrev bY_tell : ByteArray := prog_5_method_10_code
def yY_tell : MethodName := ⟨RY, "tell", "(IIIIZZI)V"⟩
abbrev bY_told : ByteArray := prog_5_method_11_code
def yY_told : MethodName := ⟨RY, "told", "()I"⟩
abbrev bY_method : ByteArray := prog_5_method_15_code
def yY_method : MethodName := ⟨RY, "method", "(IIIZZI)I"⟩
abbrev bY_ownIn : ByteArray := prog_5_method_14_code
def yY_ownIn : MethodName := ⟨RY, "ownIn", "(III)I"⟩
abbrev bY_isOwn : ByteArray := prog_5_method_6_code
def yY_isOwn : MethodName := ⟨RY, "isOwn", "(I)Z"⟩
abbrev bY_doesReach : ByteArray := prog_5_method_20_code
def yY_doesReach : MethodName := ⟨RY, "doesReach", "(II)Z"⟩
abbrev bY_goesAgainst : ByteArray := prog_5_method_18_code
def yY_goesAgainst : MethodName := ⟨RY, "goesAgainst", "(IIII)Z"⟩
abbrev bY_gather : ByteArray := prog_5_method_16_code
def yY_gather : MethodName := ⟨RY, "gather", "(III)V"⟩
abbrev bY_relate : ByteArray := prog_5_method_17_code
def yY_relate : MethodName := ⟨RY, "relate", "(II)V"⟩
abbrev bY_maker : ByteArray := prog_5_method_19_code
def yY_maker : MethodName := ⟨RY, "maker", "(III)I"⟩
abbrev bY_find : ByteArray := prog_5_method_23_code
def yY_find : MethodName := ⟨RY, "find", "(IIIII)I"⟩
abbrev bY_sought : ByteArray := prog_5_method_22_code
def yY_sought : MethodName := ⟨RY, "sought", "(IIII)I"⟩
abbrev bY_isSought : ByteArray := prog_5_method_21_code
def yY_isSought : MethodName := ⟨RY, "isSought", "(IIII)Z"⟩
abbrev bY_refused : ByteArray := prog_5_method_24_code
def yY_refused : MethodName := ⟨RY, "refused", "()I"⟩
abbrev bY_reaches : ByteArray := prog_5_method_25_code
def yY_reaches : MethodName := ⟨RY, "reaches", "(II)Z"⟩
abbrev bY_isMember : ByteArray := prog_5_method_4_code
def yY_isMember : MethodName := ⟨RY, "isMember", "(I)Z"⟩
abbrev bY_called : ByteArray := prog_5_method_27_code
def yY_called : MethodName := ⟨RY, "called", "(II)I"⟩
abbrev bY_linkOf : ByteArray := prog_5_method_26_code
def yY_linkOf : MethodName := ⟨RY, "linkOf", "(I)I"⟩
abbrev bY_overrides : ByteArray := prog_5_method_28_code
def yY_overrides : MethodName := ⟨RY, "overrides", "(II)Z"⟩
abbrev bY_member : ByteArray := prog_5_method_29_code
def yY_member : MethodName := ⟨RY, "member", "(II)I"⟩
abbrev bY_seen : ByteArray := prog_5_method_31_code
def yY_seen : MethodName := ⟨RY, "seen", "(II)I"⟩
abbrev bY_isHidden : ByteArray := prog_5_method_30_code
def yY_isHidden : MethodName := ⟨RY, "isHidden", "(II)Z"⟩
abbrev bL_law : ByteArray := code
def mw_tb : List Cond := lw_tbl.filter goodWord
theorem mw_good : ∀ w ∈ mw_tb, (w.onTables && w.keeps) = true ∨ ∃ ty, w = .arrayClass ty := fun w h => good_of_word (List.mem_filter.mp h).2
theorem mw_in {w : Cond} {i : Nat} (h : tables_1[i]? = some w) (hg : goodWord w = true) : w ∈ mw_tb := List.mem_filter.mpr ⟨List.mem_append_right _ (List.mem_of_getElem? h), hg⟩
theorem mw_ins {w : Cond} {i : Nat} (h : (k2_sels lw_privs)[i]? = some w) (hg : goodWord w = true) : w ∈ mw_tb := List.mem_filter.mpr ⟨List.mem_append_left _ (List.mem_of_getElem? h), hg⟩
set_option maxRecDepth 20000 in
theorem kn_L : Cond.initialized RL ∈ mw_tb := mw_in (i := 0) rfl rfl
set_option maxRecDepth 20000 in
theorem kn_X : Cond.initialized RX ∈ mw_tb := mw_in (i := 1) rfl rfl
set_option maxRecDepth 20000 in
theorem kn_Y : Cond.initialized RY ∈ mw_tb := mw_in (i := 2) rfl rfl
set_option maxRecDepth 20000 in
theorem kn_C : Cond.initialized RC ∈ mw_tb := mw_in (i := 3) rfl rfl
set_option maxRecDepth 20000 in
theorem kn_N : Cond.initialized RN ∈ mw_tb := mw_in (i := 4) rfl rfl
set_option maxRecDepth 20000 in
theorem kc_L_7 : Cond.classLink RL 7 RX ∈ mw_tb := mw_in (i := 5) rfl rfl
set_option maxRecDepth 20000 in
theorem kj_X : Cond.instantiable RX 6 ∈ mw_tb := mw_in (i := 6) rfl rfl
set_option maxRecDepth 20000 in
theorem kl_L_9 : Cond.methodLink RL 9 yX_init ∈ mw_tb := mw_in (i := 7) rfl rfl
set_option maxRecDepth 20000 in
theorem ki_X_init : Cond.instanceMethod yX_init ∈ mw_tb := mw_in (i := 8) rfl rfl
set_option maxRecDepth 20000 in
theorem kl_X_1 : Cond.methodLink RX 1 objectInit ∈ mw_tb := mw_in (i := 10) rfl rfl
set_option maxRecDepth 20000 in
theorem ki_obj : Cond.instanceMethod objectInit ∈ mw_tb := mw_in (i := 11) rfl rfl
set_option maxRecDepth 20000 in
theorem kb_obj : Cond.code objectInit ⟨#[0xb1]⟩ 1 none ∈ mw_tb := mw_in (i := 12) rfl rfl
set_option maxRecDepth 20000 in
theorem kc_X_9 : Cond.classLink RX 9 RC ∈ mw_tb := mw_in (i := 13) rfl rfl
set_option maxRecDepth 20000 in
theorem ko_C : Cond.arrayOver (.object RC) ∈ lw_tbl := List.mem_append_right _ (List.mem_of_getElem? (i := 14) rfl)
set_option maxRecDepth 20000 in
theorem kc_X_15 : Cond.classLink RX 15 RN ∈ mw_tb := mw_in (i := 15) rfl rfl
set_option maxRecDepth 20000 in
theorem ko_N : Cond.arrayOver (.object RN) ∈ lw_tbl := List.mem_append_right _ (List.mem_of_getElem? (i := 16) rfl)
set_option maxRecDepth 20000 in
theorem kf_X_11 : Cond.fieldLink RX 11 RX "classes" "[LMemberFinder$ClassInfo;" ∈ mw_tb := mw_in (i := 17) rfl rfl
set_option maxRecDepth 20000 in
theorem kf_X_25 : Cond.fieldLink RX 25 RX "classCount" "I" ∈ mw_tb := mw_in (i := 18) rfl rfl
set_option maxRecDepth 20000 in
theorem kf_X_17 : Cond.fieldLink RX 17 RX "members" "[LMemberFinder$MemberInfo;" ∈ mw_tb := mw_in (i := 19) rfl rfl
set_option maxRecDepth 20000 in
theorem kf_X_29 : Cond.fieldLink RX 29 RX "memberCount" "I" ∈ mw_tb := mw_in (i := 20) rfl rfl
set_option maxRecDepth 20000 in
theorem kf_X_32 : Cond.fieldLink RX 32 RX "refusal" "I" ∈ mw_tb := mw_in (i := 21) rfl rfl
set_option maxRecDepth 20000 in
theorem kf_X_21 : Cond.fieldLink RX 21 RX "linePacks" "[I" ∈ mw_tb := mw_in (i := 22) rfl rfl
set_option maxRecDepth 20000 in
theorem ka_int : Cond.arrayClass .int ∈ mw_tb := mw_in (i := 36) rfl rfl
set_option maxRecDepth 20000 in
theorem kl_L_13 : Cond.methodLink RL 13 yX_newClass ∈ mw_tb := mw_in (i := 37) rfl rfl
set_option maxRecDepth 20000 in
theorem ki_X_newClass : Cond.instanceMethod yX_newClass ∈ mw_tb := mw_in (i := 38) rfl rfl
set_option maxRecDepth 20000 in
theorem ks_X_newClass : Cond.selects RX yX_newClass yX_newClass ∈ mw_tb := mw_in (i := 39) rfl rfl
set_option maxRecDepth 20000 in
theorem kl_X_35 : Cond.methodLink RX 35 yX_classAt ∈ mw_tb := mw_in (i := 41) rfl rfl
set_option maxRecDepth 20000 in
theorem ki_X_classAt : Cond.instanceMethod yX_classAt ∈ mw_tb := mw_in (i := 43) rfl rfl
set_option maxRecDepth 20000 in
theorem kj_C : Cond.instantiable RC 4 ∈ mw_tb := mw_in (i := 45) rfl rfl
set_option maxRecDepth 20000 in
theorem kl_X_39 : Cond.methodLink RX 39 yC_init ∈ mw_tb := mw_in (i := 46) rfl rfl
set_option maxRecDepth 20000 in
theorem ki_C_init : Cond.instanceMethod yC_init ∈ mw_tb := mw_in (i := 47) rfl rfl
set_option maxRecDepth 20000 in
theorem kl_C_3 : Cond.methodLink RC 3 objectInit ∈ mw_tb := mw_in (i := 49) rfl rfl
set_option maxRecDepth 20000 in
theorem kf_C_9 : Cond.fieldLink RC 9 RC "number" "I" ∈ mw_tb := mw_in (i := 50) rfl rfl
set_option maxRecDepth 20000 in
theorem kf_X_101 : Cond.fieldLink RX 101 RC "number" "I" ∈ mw_tb := mw_in (i := 51) rfl rfl
set_option maxRecDepth 20000 in
theorem kf_C_15 : Cond.fieldLink RC 15 RC "parent" "LMemberFinder$ClassInfo;" ∈ mw_tb := mw_in (i := 52) rfl rfl
set_option maxRecDepth 20000 in
theorem kf_X_122 : Cond.fieldLink RX 122 RC "parent" "LMemberFinder$ClassInfo;" ∈ mw_tb := mw_in (i := 53) rfl rfl
set_option maxRecDepth 20000 in
theorem kf_C_19 : Cond.fieldLink RC 19 RC "pack" "I" ∈ mw_tb := mw_in (i := 54) rfl rfl
set_option maxRecDepth 20000 in
theorem kf_N_42 : Cond.fieldLink RN 42 RC "pack" "I" ∈ mw_tb := mw_in (i := 55) rfl rfl
set_option maxRecDepth 20000 in
theorem kf_X_143 : Cond.fieldLink RX 143 RC "pack" "I" ∈ mw_tb := mw_in (i := 56) rfl rfl
set_option maxRecDepth 20000 in
theorem kf_C_22 : Cond.fieldLink RC 22 RC "latest" "LMemberFinder$MemberInfo;" ∈ mw_tb := mw_in (i := 57) rfl rfl
set_option maxRecDepth 20000 in
theorem kf_X_111 : Cond.fieldLink RX 111 RC "latest" "LMemberFinder$MemberInfo;" ∈ mw_tb := mw_in (i := 58) rfl rfl
set_option maxRecDepth 20000 in
theorem kl_L_18 : Cond.methodLink RL 18 yX_below ∈ mw_tb := mw_in (i := 68) rfl rfl
set_option maxRecDepth 20000 in
theorem ki_X_below : Cond.instanceMethod yX_below ∈ mw_tb := mw_in (i := 69) rfl rfl
set_option maxRecDepth 20000 in
theorem ks_X_below : Cond.selects RX yX_below yX_below ∈ mw_tb := mw_in (i := 70) rfl rfl
set_option maxRecDepth 20000 in
theorem kl_X_42 : Cond.methodLink RX 42 yC_isBelow ∈ mw_tb := mw_in (i := 72) rfl rfl
set_option maxRecDepth 20000 in
theorem ki_C_isBelow : Cond.instanceMethod yC_isBelow ∈ mw_tb := mw_in (i := 73) rfl rfl
set_option maxRecDepth 20000 in
theorem ks_C_isBelow : Cond.selects RC yC_isBelow yC_isBelow ∈ mw_tb := mw_in (i := 74) rfl rfl
set_option maxRecDepth 20000 in
theorem kl_L_23 : Cond.methodLink RL 23 yX_field ∈ mw_tb := mw_in (i := 76) rfl rfl
set_option maxRecDepth 20000 in
theorem ki_X_field : Cond.instanceMethod yX_field ∈ mw_tb := mw_in (i := 77) rfl rfl
set_option maxRecDepth 20000 in
theorem ks_X_field : Cond.selects RX yX_field yX_field ∈ mw_tb := mw_in (i := 78) rfl rfl
set_option maxRecDepth 20000 in
theorem kl_X_46 : Cond.methodLink RX 46 yX_refuse ∈ mw_tb := mw_in (i := 80) rfl rfl
set_option maxRecDepth 20000 in
theorem ki_X_refuse : Cond.instanceMethod yX_refuse ∈ mw_tb := mw_in (i := 82) rfl rfl
set_option maxRecDepth 20000 in
theorem kj_N : Cond.instantiable RN 9 ∈ mw_tb := mw_in (i := 84) rfl rfl
set_option maxRecDepth 20000 in
theorem kl_X_50 : Cond.methodLink RX 50 yN_init ∈ mw_tb := mw_in (i := 85) rfl rfl
set_option maxRecDepth 20000 in
theorem ki_N_init : Cond.instanceMethod yN_init ∈ mw_tb := mw_in (i := 86) rfl rfl
set_option maxRecDepth 20000 in
theorem kl_N_3 : Cond.methodLink RN 3 objectInit ∈ mw_tb := mw_in (i := 88) rfl rfl
set_option maxRecDepth 20000 in
theorem kf_N_9 : Cond.fieldLink RN 9 RN "home" "LMemberFinder$ClassInfo;" ∈ mw_tb := mw_in (i := 89) rfl rfl
set_option maxRecDepth 20000 in
theorem kf_X_72 : Cond.fieldLink RX 72 RN "home" "LMemberFinder$ClassInfo;" ∈ mw_tb := mw_in (i := 90) rfl rfl
set_option maxRecDepth 20000 in
theorem kf_N_15 : Cond.fieldLink RN 15 RN "kind" "I" ∈ mw_tb := mw_in (i := 91) rfl rfl
set_option maxRecDepth 20000 in
theorem kf_C_26 : Cond.fieldLink RC 26 RN "kind" "I" ∈ mw_tb := mw_in (i := 92) rfl rfl
set_option maxRecDepth 20000 in
theorem kf_X_108 : Cond.fieldLink RX 108 RN "kind" "I" ∈ mw_tb := mw_in (i := 93) rfl rfl
set_option maxRecDepth 20000 in
theorem kf_N_19 : Cond.fieldLink RN 19 RN "name" "I" ∈ mw_tb := mw_in (i := 94) rfl rfl
set_option maxRecDepth 20000 in
theorem kf_C_31 : Cond.fieldLink RC 31 RN "name" "I" ∈ mw_tb := mw_in (i := 95) rfl rfl
set_option maxRecDepth 20000 in
theorem kf_X_91 : Cond.fieldLink RX 91 RN "name" "I" ∈ mw_tb := mw_in (i := 96) rfl rfl
set_option maxRecDepth 20000 in
theorem kf_N_22 : Cond.fieldLink RN 22 RN "type" "I" ∈ mw_tb := mw_in (i := 97) rfl rfl
set_option maxRecDepth 20000 in
theorem kf_C_34 : Cond.fieldLink RC 34 RN "type" "I" ∈ mw_tb := mw_in (i := 98) rfl rfl
set_option maxRecDepth 20000 in
theorem kf_X_94 : Cond.fieldLink RX 94 RN "type" "I" ∈ mw_tb := mw_in (i := 99) rfl rfl
set_option maxRecDepth 20000 in
theorem kf_N_25 : Cond.fieldLink RN 25 RN "isStatic" "Z" ∈ mw_tb := mw_in (i := 100) rfl rfl
set_option maxRecDepth 20000 in
theorem kf_C_44 : Cond.fieldLink RC 44 RN "isStatic" "Z" ∈ mw_tb := mw_in (i := 101) rfl rfl
set_option maxRecDepth 20000 in
theorem kf_X_105 : Cond.fieldLink RX 105 RN "isStatic" "Z" ∈ mw_tb := mw_in (i := 102) rfl rfl
set_option maxRecDepth 20000 in
theorem kf_N_29 : Cond.fieldLink RN 29 RN "isFinal" "Z" ∈ mw_tb := mw_in (i := 103) rfl rfl
set_option maxRecDepth 20000 in
theorem kf_X_68 : Cond.fieldLink RX 68 RN "isFinal" "Z" ∈ mw_tb := mw_in (i := 104) rfl rfl
set_option maxRecDepth 20000 in
theorem kf_N_32 : Cond.fieldLink RN 32 RN "rights" "I" ∈ mw_tb := mw_in (i := 105) rfl rfl
set_option maxRecDepth 20000 in
theorem kf_X_102 : Cond.fieldLink RX 102 RN "rights" "I" ∈ mw_tb := mw_in (i := 106) rfl rfl
set_option maxRecDepth 20000 in
theorem kf_N_35 : Cond.fieldLink RN 35 RN "number" "I" ∈ mw_tb := mw_in (i := 107) rfl rfl
set_option maxRecDepth 20000 in
theorem kf_X_76 : Cond.fieldLink RX 76 RN "number" "I" ∈ mw_tb := mw_in (i := 108) rfl rfl
set_option maxRecDepth 20000 in
theorem kf_N_38 : Cond.fieldLink RN 38 RN "earlier" "LMemberFinder$MemberInfo;" ∈ mw_tb := mw_in (i := 109) rfl rfl
set_option maxRecDepth 20000 in
theorem kf_C_37 : Cond.fieldLink RC 37 RN "earlier" "LMemberFinder$MemberInfo;" ∈ mw_tb := mw_in (i := 110) rfl rfl
set_option maxRecDepth 20000 in
theorem kf_X_119 : Cond.fieldLink RX 119 RN "earlier" "LMemberFinder$MemberInfo;" ∈ mw_tb := mw_in (i := 111) rfl rfl
set_option maxRecDepth 20000 in
theorem kl_X_53 : Cond.methodLink RX 53 yX_add ∈ mw_tb := mw_in (i := 131) rfl rfl
set_option maxRecDepth 20000 in
theorem ki_X_add : Cond.instanceMethod yX_add ∈ mw_tb := mw_in (i := 133) rfl rfl
set_option maxRecDepth 20000 in
theorem kl_X_125 : Cond.methodLink RX 125 yX_refusalOfNew ∈ mw_tb := mw_in (i := 135) rfl rfl
set_option maxRecDepth 20000 in
theorem ki_X_refusalOfNew : Cond.instanceMethod yX_refusalOfNew ∈ mw_tb := mw_in (i := 137) rfl rfl
set_option maxRecDepth 20000 in
theorem kl_X_57 : Cond.methodLink RX 57 yX_isName ∈ mw_tb := mw_in (i := 139) rfl rfl
set_option maxRecDepth 20000 in
theorem ki_X_isName : Cond.static yX_isName ∈ mw_tb := mw_in (i := 140) rfl rfl
set_option maxRecDepth 20000 in
theorem kl_X_128 : Cond.methodLink RX 128 yX_isRights ∈ mw_tb := mw_in (i := 142) rfl rfl
set_option maxRecDepth 20000 in
theorem ki_X_isRights : Cond.static yX_isRights ∈ mw_tb := mw_in (i := 143) rfl rfl
set_option maxRecDepth 20000 in
theorem kl_X_131 : Cond.methodLink RX 131 yC_own ∈ mw_tb := mw_in (i := 145) rfl rfl
set_option maxRecDepth 20000 in
theorem ki_C_own : Cond.instanceMethod yC_own ∈ mw_tb := mw_in (i := 146) rfl rfl
set_option maxRecDepth 20000 in
theorem ks_C_own : Cond.selects RC yC_own yC_own ∈ mw_tb := mw_in (i := 147) rfl rfl
set_option maxRecDepth 20000 in
theorem kl_X_135 : Cond.methodLink RX 135 yX_isForbiddenFromAbove ∈ mw_tb := mw_in (i := 149) rfl rfl
set_option maxRecDepth 20000 in
theorem ki_X_isForbiddenFromAbove : Cond.instanceMethod yX_isForbiddenFromAbove ∈ mw_tb := mw_in (i := 151) rfl rfl
set_option maxRecDepth 20000 in
theorem kl_X_139 : Cond.methodLink RX 139 yC_ownObjectMethod ∈ mw_tb := mw_in (i := 153) rfl rfl
set_option maxRecDepth 20000 in
theorem ki_C_ownObjectMethod : Cond.instanceMethod yC_ownObjectMethod ∈ mw_tb := mw_in (i := 154) rfl rfl
set_option maxRecDepth 20000 in
theorem ks_C_ownObjectMethod : Cond.selects RC yC_ownObjectMethod yC_ownObjectMethod ∈ mw_tb := mw_in (i := 155) rfl rfl
set_option maxRecDepth 20000 in
theorem kl_C_40 : Cond.methodLink RC 40 yC_own ∈ mw_tb := mw_in (i := 157) rfl rfl
set_option maxRecDepth 20000 in
theorem kl_X_65 : Cond.methodLink RX 65 yN_isReachedBy ∈ mw_tb := mw_in (i := 158) rfl rfl
set_option maxRecDepth 20000 in
theorem ki_N_isReachedBy : Cond.instanceMethod yN_isReachedBy ∈ mw_tb := mw_in (i := 159) rfl rfl
set_option maxRecDepth 20000 in
theorem ks_N_isReachedBy : Cond.selects RN yN_isReachedBy yN_isReachedBy ∈ mw_tb := mw_in (i := 160) rfl rfl
set_option maxRecDepth 20000 in
theorem kl_N_47 : Cond.methodLink RN 47 yC_isBelow ∈ mw_tb := mw_in (i := 162) rfl rfl
set_option maxRecDepth 20000 in
theorem kl_X_97 : Cond.methodLink RX 97 yX_overridesMethod ∈ mw_tb := mw_in (i := 163) rfl rfl
set_option maxRecDepth 20000 in
theorem ki_X_overridesMethod : Cond.instanceMethod yX_overridesMethod ∈ mw_tb := mw_in (i := 165) rfl rfl
set_option maxRecDepth 20000 in
theorem kl_X_146 : Cond.methodLink RX 146 yX_isOverriddenByLine ∈ mw_tb := mw_in (i := 167) rfl rfl
set_option maxRecDepth 20000 in
theorem ki_X_isOverriddenByLine : Cond.instanceMethod yX_isOverriddenByLine ∈ mw_tb := mw_in (i := 169) rfl rfl
set_option maxRecDepth 20000 in
theorem kl_L_28 : Cond.methodLink RL 28 yX_method ∈ mw_tb := mw_in (i := 171) rfl rfl
set_option maxRecDepth 20000 in
theorem ki_X_method : Cond.instanceMethod yX_method ∈ mw_tb := mw_in (i := 172) rfl rfl
set_option maxRecDepth 20000 in
theorem ks_X_method : Cond.selects RX yX_method yX_method ∈ mw_tb := mw_in (i := 173) rfl rfl
set_option maxRecDepth 20000 in
theorem kl_L_33 : Cond.methodLink RL 33 yX_maker ∈ mw_tb := mw_in (i := 175) rfl rfl
set_option maxRecDepth 20000 in
theorem ki_X_maker : Cond.instanceMethod yX_maker ∈ mw_tb := mw_in (i := 176) rfl rfl
set_option maxRecDepth 20000 in
theorem ks_X_maker : Cond.selects RX yX_maker yX_maker ∈ mw_tb := mw_in (i := 177) rfl rfl
set_option maxRecDepth 20000 in
theorem kl_L_38 : Cond.methodLink RL 38 yX_find ∈ mw_tb := mw_in (i := 179) rfl rfl
set_option maxRecDepth 20000 in
theorem ki_X_find : Cond.instanceMethod yX_find ∈ mw_tb := mw_in (i := 180) rfl rfl
set_option maxRecDepth 20000 in
theorem ks_X_find : Cond.selects RX yX_find yX_find ∈ mw_tb := mw_in (i := 181) rfl rfl
set_option maxRecDepth 20000 in
theorem kl_X_61 : Cond.methodLink RX 61 yX_firstAsTold ∈ mw_tb := mw_in (i := 183) rfl rfl
set_option maxRecDepth 20000 in
theorem ki_X_firstAsTold : Cond.static yX_firstAsTold ∈ mw_tb := mw_in (i := 184) rfl rfl
set_option maxRecDepth 20000 in
theorem kl_L_43 : Cond.methodLink RL 43 yX_refused ∈ mw_tb := mw_in (i := 186) rfl rfl
set_option maxRecDepth 20000 in
theorem ki_X_refused : Cond.instanceMethod yX_refused ∈ mw_tb := mw_in (i := 187) rfl rfl
set_option maxRecDepth 20000 in
theorem ks_X_refused : Cond.selects RX yX_refused yX_refused ∈ mw_tb := mw_in (i := 188) rfl rfl
set_option maxRecDepth 20000 in
theorem kl_L_48 : Cond.methodLink RL 48 yX_reaches ∈ mw_tb := mw_in (i := 190) rfl rfl
set_option maxRecDepth 20000 in
theorem ki_X_reaches : Cond.instanceMethod yX_reaches ∈ mw_tb := mw_in (i := 191) rfl rfl
set_option maxRecDepth 20000 in
theorem ks_X_reaches : Cond.selects RX yX_reaches yX_reaches ∈ mw_tb := mw_in (i := 192) rfl rfl
set_option maxRecDepth 20000 in
theorem kl_X_79 : Cond.methodLink RX 79 yX_memberAt ∈ mw_tb := mw_in (i := 194) rfl rfl
set_option maxRecDepth 20000 in
theorem ki_X_memberAt : Cond.instanceMethod yX_memberAt ∈ mw_tb := mw_in (i := 196) rfl rfl
set_option maxRecDepth 20000 in
theorem kl_L_52 : Cond.methodLink RL 52 yX_called ∈ mw_tb := mw_in (i := 198) rfl rfl
set_option maxRecDepth 20000 in
theorem ki_X_called : Cond.instanceMethod yX_called ∈ mw_tb := mw_in (i := 199) rfl rfl
set_option maxRecDepth 20000 in
theorem ks_X_called : Cond.selects RX yX_called yX_called ∈ mw_tb := mw_in (i := 200) rfl rfl
set_option maxRecDepth 20000 in
theorem kl_X_83 : Cond.methodLink RX 83 yN_isObjectMethod ∈ mw_tb := mw_in (i := 202) rfl rfl
set_option maxRecDepth 20000 in
theorem ki_N_isObjectMethod : Cond.instanceMethod yN_isObjectMethod ∈ mw_tb := mw_in (i := 203) rfl rfl
set_option maxRecDepth 20000 in
theorem ks_N_isObjectMethod : Cond.selects RN yN_isObjectMethod yN_isObjectMethod ∈ mw_tb := mw_in (i := 204) rfl rfl
set_option maxRecDepth 20000 in
theorem kl_X_87 : Cond.methodLink RX 87 yX_calledMethod ∈ mw_tb := mw_in (i := 206) rfl rfl
set_option maxRecDepth 20000 in
theorem ki_X_calledMethod : Cond.instanceMethod yX_calledMethod ∈ mw_tb := mw_in (i := 208) rfl rfl
set_option maxRecDepth 20000 in
theorem kl_L_56 : Cond.methodLink RL 56 yX_overrides ∈ mw_tb := mw_in (i := 210) rfl rfl
set_option maxRecDepth 20000 in
theorem ki_X_overrides : Cond.instanceMethod yX_overrides ∈ mw_tb := mw_in (i := 211) rfl rfl
set_option maxRecDepth 20000 in
theorem ks_X_overrides : Cond.selects RX yX_overrides yX_overrides ∈ mw_tb := mw_in (i := 212) rfl rfl
set_option maxRecDepth 20000 in
theorem kl_L_60 : Cond.methodLink RL 60 yX_member ∈ mw_tb := mw_in (i := 214) rfl rfl
set_option maxRecDepth 20000 in
theorem ki_X_member : Cond.instanceMethod yX_member ∈ mw_tb := mw_in (i := 215) rfl rfl
set_option maxRecDepth 20000 in
theorem ks_X_member : Cond.selects RX yX_member yX_member ∈ mw_tb := mw_in (i := 216) rfl rfl
set_option maxRecDepth 20000 in
theorem kl_L_64 : Cond.methodLink RL 64 yX_seen ∈ mw_tb := mw_in (i := 218) rfl rfl
set_option maxRecDepth 20000 in
theorem ki_X_seen : Cond.instanceMethod yX_seen ∈ mw_tb := mw_in (i := 219) rfl rfl
set_option maxRecDepth 20000 in
theorem ks_X_seen : Cond.selects RX yX_seen yX_seen ∈ mw_tb := mw_in (i := 220) rfl rfl
set_option maxRecDepth 20000 in
theorem kl_X_115 : Cond.methodLink RX 115 yX_isHidden ∈ mw_tb := mw_in (i := 222) rfl rfl
set_option maxRecDepth 20000 in
theorem ki_X_isHidden : Cond.instanceMethod yX_isHidden ∈ mw_tb := mw_in (i := 224) rfl rfl
set_option maxRecDepth 20000 in
theorem kc_L_10 : Cond.classLink RL 10 RY ∈ mw_tb := mw_in (i := 226) rfl rfl
set_option maxRecDepth 20000 in
theorem kj_Y : Cond.instantiable RY 15 ∈ mw_tb := mw_in (i := 227) rfl rfl
set_option maxRecDepth 20000 in
theorem kl_L_12 : Cond.methodLink RL 12 yY_init ∈ mw_tb := mw_in (i := 228) rfl rfl
set_option maxRecDepth 20000 in
theorem ki_Y_init : Cond.instanceMethod yY_init ∈ mw_tb := mw_in (i := 229) rfl rfl
set_option maxRecDepth 20000 in
theorem kl_Y_1 : Cond.methodLink RY 1 objectInit ∈ mw_tb := mw_in (i := 231) rfl rfl
set_option maxRecDepth 20000 in
theorem kf_Y_7 : Cond.fieldLink RY 7 RY "parent" "[I" ∈ mw_tb := mw_in (i := 232) rfl rfl
set_option maxRecDepth 20000 in
theorem kf_Y_13 : Cond.fieldLink RY 13 RY "pack" "[I" ∈ mw_tb := mw_in (i := 233) rfl rfl
set_option maxRecDepth 20000 in
theorem kf_Y_44 : Cond.fieldLink RY 44 RY "classes" "I" ∈ mw_tb := mw_in (i := 234) rfl rfl
set_option maxRecDepth 20000 in
theorem kf_Y_16 : Cond.fieldLink RY 16 RY "memberClass" "[I" ∈ mw_tb := mw_in (i := 235) rfl rfl
set_option maxRecDepth 20000 in
theorem kf_Y_19 : Cond.fieldLink RY 19 RY "memberName" "[I" ∈ mw_tb := mw_in (i := 236) rfl rfl
set_option maxRecDepth 20000 in
theorem kf_Y_22 : Cond.fieldLink RY 22 RY "rights" "[I" ∈ mw_tb := mw_in (i := 237) rfl rfl
set_option maxRecDepth 20000 in
theorem kf_Y_25 : Cond.fieldLink RY 25 RY "sort" "[I" ∈ mw_tb := mw_in (i := 238) rfl rfl
set_option maxRecDepth 20000 in
theorem kf_Y_28 : Cond.fieldLink RY 28 RY "type" "[I" ∈ mw_tb := mw_in (i := 239) rfl rfl
set_option maxRecDepth 20000 in
theorem kf_Y_31 : Cond.fieldLink RY 31 RY "fixed" "[Z" ∈ mw_tb := mw_in (i := 240) rfl rfl
set_option maxRecDepth 20000 in
theorem kf_Y_35 : Cond.fieldLink RY 35 RY "last" "[Z" ∈ mw_tb := mw_in (i := 241) rfl rfl
set_option maxRecDepth 20000 in
theorem kf_Y_48 : Cond.fieldLink RY 48 RY "members" "I" ∈ mw_tb := mw_in (i := 242) rfl rfl
set_option maxRecDepth 20000 in
theorem kf_Y_51 : Cond.fieldLink RY 51 RY "refused" "I" ∈ mw_tb := mw_in (i := 243) rfl rfl
set_option maxRecDepth 20000 in
theorem kf_Y_38 : Cond.fieldLink RY 38 RY "chain" "[I" ∈ mw_tb := mw_in (i := 244) rfl rfl
set_option maxRecDepth 20000 in
theorem kf_Y_91 : Cond.fieldLink RY 91 RY "links" "I" ∈ mw_tb := mw_in (i := 245) rfl rfl
set_option maxRecDepth 20000 in
theorem kf_Y_41 : Cond.fieldLink RY 41 RY "over" "[Z" ∈ mw_tb := mw_in (i := 246) rfl rfl
set_option maxRecDepth 20000 in
theorem ka_boolean : Cond.arrayClass .boolean ∈ mw_tb := mw_in (i := 278) rfl rfl
set_option maxRecDepth 20000 in
theorem kl_L_17 : Cond.methodLink RL 17 yY_newClass ∈ mw_tb := mw_in (i := 279) rfl rfl
set_option maxRecDepth 20000 in
theorem ki_Y_newClass : Cond.instanceMethod yY_newClass ∈ mw_tb := mw_in (i := 280) rfl rfl
set_option maxRecDepth 20000 in
theorem ks_Y_newClass : Cond.selects RY yY_newClass yY_newClass ∈ mw_tb := mw_in (i := 281) rfl rfl
set_option maxRecDepth 20000 in
theorem kl_Y_54 : Cond.methodLink RY 54 yY_isClass ∈ mw_tb := mw_in (i := 283) rfl rfl
set_option maxRecDepth 20000 in
theorem ki_Y_isClass : Cond.instanceMethod yY_isClass ∈ mw_tb := mw_in (i := 285) rfl rfl
set_option maxRecDepth 20000 in
theorem kl_L_22 : Cond.methodLink RL 22 yY_below ∈ mw_tb := mw_in (i := 287) rfl rfl
set_option maxRecDepth 20000 in
theorem ki_Y_below : Cond.instanceMethod yY_below ∈ mw_tb := mw_in (i := 288) rfl rfl
set_option maxRecDepth 20000 in
theorem ks_Y_below : Cond.selects RY yY_below yY_below ∈ mw_tb := mw_in (i := 289) rfl rfl
set_option maxRecDepth 20000 in
theorem kl_Y_58 : Cond.methodLink RY 58 yY_isBelow ∈ mw_tb := mw_in (i := 291) rfl rfl
set_option maxRecDepth 20000 in
theorem ki_Y_isBelow : Cond.instanceMethod yY_isBelow ∈ mw_tb := mw_in (i := 293) rfl rfl
set_option maxRecDepth 20000 in
theorem kl_L_27 : Cond.methodLink RL 27 yY_field ∈ mw_tb := mw_in (i := 295) rfl rfl
set_option maxRecDepth 20000 in
theorem ki_Y_field : Cond.instanceMethod yY_field ∈ mw_tb := mw_in (i := 296) rfl rfl
set_option maxRecDepth 20000 in
theorem ks_Y_field : Cond.selects RY yY_field yY_field ∈ mw_tb := mw_in (i := 297) rfl rfl
set_option maxRecDepth 20000 in
theorem kl_Y_62 : Cond.methodLink RY 62 yY_refuse ∈ mw_tb := mw_in (i := 299) rfl rfl
set_option maxRecDepth 20000 in
theorem ki_Y_refuse : Cond.instanceMethod yY_refuse ∈ mw_tb := mw_in (i := 301) rfl rfl
set_option maxRecDepth 20000 in
theorem kl_Y_66 : Cond.methodLink RY 66 yY_outside ∈ mw_tb := mw_in (i := 303) rfl rfl
set_option maxRecDepth 20000 in
theorem ki_Y_outside : Cond.static yY_outside ∈ mw_tb := mw_in (i := 304) rfl rfl
set_option maxRecDepth 20000 in
theorem kl_Y_69 : Cond.methodLink RY 69 yY_tell ∈ mw_tb := mw_in (i := 306) rfl rfl
set_option maxRecDepth 20000 in
theorem ki_Y_tell : Cond.instanceMethod yY_tell ∈ mw_tb := mw_in (i := 308) rfl rfl
set_option maxRecDepth 20000 in
theorem kl_Y_73 : Cond.methodLink RY 73 yY_told ∈ mw_tb := mw_in (i := 310) rfl rfl
set_option maxRecDepth 20000 in
theorem ki_Y_told : Cond.instanceMethod yY_told ∈ mw_tb := mw_in (i := 312) rfl rfl
set_option maxRecDepth 20000 in
theorem kl_L_32 : Cond.methodLink RL 32 yY_method ∈ mw_tb := mw_in (i := 314) rfl rfl
set_option maxRecDepth 20000 in
theorem ki_Y_method : Cond.instanceMethod yY_method ∈ mw_tb := mw_in (i := 315) rfl rfl
set_option maxRecDepth 20000 in
theorem ks_Y_method : Cond.selects RY yY_method yY_method ∈ mw_tb := mw_in (i := 316) rfl rfl
set_option maxRecDepth 20000 in
theorem kl_Y_80 : Cond.methodLink RY 80 yY_ownIn ∈ mw_tb := mw_in (i := 318) rfl rfl
set_option maxRecDepth 20000 in
theorem ki_Y_ownIn : Cond.instanceMethod yY_ownIn ∈ mw_tb := mw_in (i := 320) rfl rfl
set_option maxRecDepth 20000 in
theorem kl_Y_77 : Cond.methodLink RY 77 yY_isOwn ∈ mw_tb := mw_in (i := 322) rfl rfl
set_option maxRecDepth 20000 in
theorem ki_Y_isOwn : Cond.instanceMethod yY_isOwn ∈ mw_tb := mw_in (i := 324) rfl rfl
set_option maxRecDepth 20000 in
theorem kl_Y_84 : Cond.methodLink RY 84 yY_doesReach ∈ mw_tb := mw_in (i := 326) rfl rfl
set_option maxRecDepth 20000 in
theorem ki_Y_doesReach : Cond.instanceMethod yY_doesReach ∈ mw_tb := mw_in (i := 328) rfl rfl
set_option maxRecDepth 20000 in
theorem kl_Y_87 : Cond.methodLink RY 87 yY_goesAgainst ∈ mw_tb := mw_in (i := 330) rfl rfl
set_option maxRecDepth 20000 in
theorem ki_Y_goesAgainst : Cond.instanceMethod yY_goesAgainst ∈ mw_tb := mw_in (i := 332) rfl rfl
set_option maxRecDepth 20000 in
theorem kl_Y_94 : Cond.methodLink RY 94 yY_gather ∈ mw_tb := mw_in (i := 334) rfl rfl
set_option maxRecDepth 20000 in
theorem ki_Y_gather : Cond.instanceMethod yY_gather ∈ mw_tb := mw_in (i := 336) rfl rfl
set_option maxRecDepth 20000 in
theorem kl_Y_98 : Cond.methodLink RY 98 yY_relate ∈ mw_tb := mw_in (i := 338) rfl rfl
set_option maxRecDepth 20000 in
theorem ki_Y_relate : Cond.instanceMethod yY_relate ∈ mw_tb := mw_in (i := 340) rfl rfl
set_option maxRecDepth 20000 in
theorem kl_L_37 : Cond.methodLink RL 37 yY_maker ∈ mw_tb := mw_in (i := 342) rfl rfl
set_option maxRecDepth 20000 in
theorem ki_Y_maker : Cond.instanceMethod yY_maker ∈ mw_tb := mw_in (i := 343) rfl rfl
set_option maxRecDepth 20000 in
theorem ks_Y_maker : Cond.selects RY yY_maker yY_maker ∈ mw_tb := mw_in (i := 344) rfl rfl
set_option maxRecDepth 20000 in
theorem kl_L_42 : Cond.methodLink RL 42 yY_find ∈ mw_tb := mw_in (i := 346) rfl rfl
set_option maxRecDepth 20000 in
theorem ki_Y_find : Cond.instanceMethod yY_find ∈ mw_tb := mw_in (i := 347) rfl rfl
set_option maxRecDepth 20000 in
theorem ks_Y_find : Cond.selects RY yY_find yY_find ∈ mw_tb := mw_in (i := 348) rfl rfl
set_option maxRecDepth 20000 in
theorem kl_Y_105 : Cond.methodLink RY 105 yY_sought ∈ mw_tb := mw_in (i := 350) rfl rfl
set_option maxRecDepth 20000 in
theorem ki_Y_sought : Cond.instanceMethod yY_sought ∈ mw_tb := mw_in (i := 352) rfl rfl
set_option maxRecDepth 20000 in
theorem kl_Y_102 : Cond.methodLink RY 102 yY_isSought ∈ mw_tb := mw_in (i := 354) rfl rfl
set_option maxRecDepth 20000 in
theorem ki_Y_isSought : Cond.instanceMethod yY_isSought ∈ mw_tb := mw_in (i := 356) rfl rfl
set_option maxRecDepth 20000 in
theorem kl_L_47 : Cond.methodLink RL 47 yY_refused ∈ mw_tb := mw_in (i := 358) rfl rfl
set_option maxRecDepth 20000 in
theorem ki_Y_refused : Cond.instanceMethod yY_refused ∈ mw_tb := mw_in (i := 359) rfl rfl
set_option maxRecDepth 20000 in
theorem ks_Y_refused : Cond.selects RY yY_refused yY_refused ∈ mw_tb := mw_in (i := 360) rfl rfl
set_option maxRecDepth 20000 in
theorem kl_L_51 : Cond.methodLink RL 51 yY_reaches ∈ mw_tb := mw_in (i := 362) rfl rfl
set_option maxRecDepth 20000 in
theorem ki_Y_reaches : Cond.instanceMethod yY_reaches ∈ mw_tb := mw_in (i := 363) rfl rfl
set_option maxRecDepth 20000 in
theorem ks_Y_reaches : Cond.selects RY yY_reaches yY_reaches ∈ mw_tb := mw_in (i := 364) rfl rfl
set_option maxRecDepth 20000 in
theorem kl_Y_109 : Cond.methodLink RY 109 yY_isMember ∈ mw_tb := mw_in (i := 366) rfl rfl
set_option maxRecDepth 20000 in
theorem ki_Y_isMember : Cond.instanceMethod yY_isMember ∈ mw_tb := mw_in (i := 368) rfl rfl
set_option maxRecDepth 20000 in
theorem kl_L_55 : Cond.methodLink RL 55 yY_called ∈ mw_tb := mw_in (i := 370) rfl rfl
set_option maxRecDepth 20000 in
theorem ki_Y_called : Cond.instanceMethod yY_called ∈ mw_tb := mw_in (i := 371) rfl rfl
set_option maxRecDepth 20000 in
theorem ks_Y_called : Cond.selects RY yY_called yY_called ∈ mw_tb := mw_in (i := 372) rfl rfl
set_option maxRecDepth 20000 in
theorem kl_Y_112 : Cond.methodLink RY 112 yY_linkOf ∈ mw_tb := mw_in (i := 374) rfl rfl
set_option maxRecDepth 20000 in
theorem ki_Y_linkOf : Cond.instanceMethod yY_linkOf ∈ mw_tb := mw_in (i := 376) rfl rfl
set_option maxRecDepth 20000 in
theorem kl_L_59 : Cond.methodLink RL 59 yY_overrides ∈ mw_tb := mw_in (i := 378) rfl rfl
set_option maxRecDepth 20000 in
theorem ki_Y_overrides : Cond.instanceMethod yY_overrides ∈ mw_tb := mw_in (i := 379) rfl rfl
set_option maxRecDepth 20000 in
theorem ks_Y_overrides : Cond.selects RY yY_overrides yY_overrides ∈ mw_tb := mw_in (i := 380) rfl rfl
set_option maxRecDepth 20000 in
theorem kl_L_63 : Cond.methodLink RL 63 yY_member ∈ mw_tb := mw_in (i := 382) rfl rfl
set_option maxRecDepth 20000 in
theorem ki_Y_member : Cond.instanceMethod yY_member ∈ mw_tb := mw_in (i := 383) rfl rfl
set_option maxRecDepth 20000 in
theorem ks_Y_member : Cond.selects RY yY_member yY_member ∈ mw_tb := mw_in (i := 384) rfl rfl
set_option maxRecDepth 20000 in
theorem kl_L_67 : Cond.methodLink RL 67 yY_seen ∈ mw_tb := mw_in (i := 386) rfl rfl
set_option maxRecDepth 20000 in
theorem ki_Y_seen : Cond.instanceMethod yY_seen ∈ mw_tb := mw_in (i := 387) rfl rfl
set_option maxRecDepth 20000 in
theorem ks_Y_seen : Cond.selects RY yY_seen yY_seen ∈ mw_tb := mw_in (i := 388) rfl rfl
set_option maxRecDepth 20000 in
theorem kl_Y_115 : Cond.methodLink RY 115 yY_isHidden ∈ mw_tb := mw_in (i := 390) rfl rfl
set_option maxRecDepth 20000 in
theorem ki_Y_isHidden : Cond.instanceMethod yY_isHidden ∈ mw_tb := mw_in (i := 392) rfl rfl
set_option maxRecDepth 20000 in
theorem ks_X_classAt : Cond.selects RX yX_classAt yX_classAt ∈ mw_tb := mw_ins (i := 0) rfl rfl
set_option maxRecDepth 20000 in
theorem ks_X_refuse : Cond.selects RX yX_refuse yX_refuse ∈ mw_tb := mw_ins (i := 1) rfl rfl
set_option maxRecDepth 20000 in
theorem ks_X_add : Cond.selects RX yX_add yX_add ∈ mw_tb := mw_ins (i := 2) rfl rfl
set_option maxRecDepth 20000 in
theorem ks_X_refusalOfNew : Cond.selects RX yX_refusalOfNew yX_refusalOfNew ∈ mw_tb := mw_ins (i := 3) rfl rfl
set_option maxRecDepth 20000 in
theorem ks_X_isForbiddenFromAbove : Cond.selects RX yX_isForbiddenFromAbove yX_isForbiddenFromAbove ∈ mw_tb := mw_ins (i := 4) rfl rfl
set_option maxRecDepth 20000 in
theorem ks_X_overridesMethod : Cond.selects RX yX_overridesMethod yX_overridesMethod ∈ mw_tb := mw_ins (i := 5) rfl rfl
set_option maxRecDepth 20000 in
theorem ks_X_isOverriddenByLine : Cond.selects RX yX_isOverriddenByLine yX_isOverriddenByLine ∈ mw_tb := mw_ins (i := 6) rfl rfl
set_option maxRecDepth 20000 in
theorem ks_X_memberAt : Cond.selects RX yX_memberAt yX_memberAt ∈ mw_tb := mw_ins (i := 7) rfl rfl
set_option maxRecDepth 20000 in
theorem ks_X_calledMethod : Cond.selects RX yX_calledMethod yX_calledMethod ∈ mw_tb := mw_ins (i := 8) rfl rfl
set_option maxRecDepth 20000 in
theorem ks_X_isHidden : Cond.selects RX yX_isHidden yX_isHidden ∈ mw_tb := mw_ins (i := 9) rfl rfl
set_option maxRecDepth 20000 in
theorem ks_Y_isClass : Cond.selects RY yY_isClass yY_isClass ∈ mw_tb := mw_ins (i := 10) rfl rfl
set_option maxRecDepth 20000 in
theorem ks_Y_isBelow : Cond.selects RY yY_isBelow yY_isBelow ∈ mw_tb := mw_ins (i := 11) rfl rfl
set_option maxRecDepth 20000 in
theorem ks_Y_refuse : Cond.selects RY yY_refuse yY_refuse ∈ mw_tb := mw_ins (i := 12) rfl rfl
set_option maxRecDepth 20000 in
theorem ks_Y_tell : Cond.selects RY yY_tell yY_tell ∈ mw_tb := mw_ins (i := 13) rfl rfl
set_option maxRecDepth 20000 in
theorem ks_Y_told : Cond.selects RY yY_told yY_told ∈ mw_tb := mw_ins (i := 14) rfl rfl
set_option maxRecDepth 20000 in
theorem ks_Y_ownIn : Cond.selects RY yY_ownIn yY_ownIn ∈ mw_tb := mw_ins (i := 15) rfl rfl
set_option maxRecDepth 20000 in
theorem ks_Y_isOwn : Cond.selects RY yY_isOwn yY_isOwn ∈ mw_tb := mw_ins (i := 16) rfl rfl
set_option maxRecDepth 20000 in
theorem ks_Y_doesReach : Cond.selects RY yY_doesReach yY_doesReach ∈ mw_tb := mw_ins (i := 17) rfl rfl
set_option maxRecDepth 20000 in
theorem ks_Y_goesAgainst : Cond.selects RY yY_goesAgainst yY_goesAgainst ∈ mw_tb := mw_ins (i := 18) rfl rfl
set_option maxRecDepth 20000 in
theorem ks_Y_gather : Cond.selects RY yY_gather yY_gather ∈ mw_tb := mw_ins (i := 19) rfl rfl
set_option maxRecDepth 20000 in
theorem ks_Y_relate : Cond.selects RY yY_relate yY_relate ∈ mw_tb := mw_ins (i := 20) rfl rfl
set_option maxRecDepth 20000 in
theorem ks_Y_sought : Cond.selects RY yY_sought yY_sought ∈ mw_tb := mw_ins (i := 21) rfl rfl
set_option maxRecDepth 20000 in
theorem ks_Y_isSought : Cond.selects RY yY_isSought yY_isSought ∈ mw_tb := mw_ins (i := 22) rfl rfl
set_option maxRecDepth 20000 in
theorem ks_Y_isMember : Cond.selects RY yY_isMember yY_isMember ∈ mw_tb := mw_ins (i := 23) rfl rfl
set_option maxRecDepth 20000 in
theorem ks_Y_linkOf : Cond.selects RY yY_linkOf yY_linkOf ∈ mw_tb := mw_ins (i := 24) rfl rfl
set_option maxRecDepth 20000 in
theorem ks_Y_isHidden : Cond.selects RY yY_isHidden yY_isHidden ∈ mw_tb := mw_ins (i := 25) rfl rfl
def mw_B (y : MethodName) (bytes : ByteArray) (maxL : Nat) (ret : Option FieldType) (n : Nat) : Prop := Cond.code y bytes maxL ret ∈ mw_tb ∧ Cond.initialized y.cls ∈ mw_tb ∧ (y.cls ≠ "java/lang/invoke/MethodHandle" ∧ y.cls ≠ "java/lang/invoke/VarHandle" ∧ (parseMethodDescriptor y.desc).map (fun d => d.parameters.length) = some n)
set_option maxRecDepth 20000 in
theorem kb_X_init : mw_B yX_init bX_init 1 none 0 := ⟨mw_in (i := 9) rfl rfl, kn_X, by decide +kernel⟩
set_option maxRecDepth 20000 in
theorem kb_X_newClass : mw_B yX_newClass bX_newClass 5 (some .int) 2 := ⟨mw_in (i := 40) rfl rfl, kn_X, by decide +kernel⟩
set_option maxRecDepth 20000 in
theorem kb_X_classAt : mw_B yX_classAt bX_classAt 2 (some (.object "MemberFinder$ClassInfo")) 1 := ⟨mw_in (i := 44) rfl rfl, kn_X, by decide +kernel⟩
set_option maxRecDepth 20000 in
theorem kb_C_init : mw_B yC_init bC_init 4 none 3 := ⟨mw_in (i := 48) rfl rfl, kn_C, by decide +kernel⟩
set_option maxRecDepth 20000 in
theorem kb_X_below : mw_B yX_below bX_below 5 (some .boolean) 2 := ⟨mw_in (i := 71) rfl rfl, kn_X, by decide +kernel⟩
set_option maxRecDepth 20000 in
theorem kb_C_isBelow : mw_B yC_isBelow bC_isBelow 3 (some .boolean) 1 := ⟨mw_in (i := 75) rfl rfl, kn_C, by decide +kernel⟩
set_option maxRecDepth 20000 in
theorem kb_X_field : mw_B yX_field bX_field 7 (some .int) 5 := ⟨mw_in (i := 79) rfl rfl, kn_X, by decide +kernel⟩
set_option maxRecDepth 20000 in
theorem kb_X_refuse : mw_B yX_refuse bX_refuse 2 (some .int) 1 := ⟨mw_in (i := 83) rfl rfl, kn_X, by decide +kernel⟩
set_option maxRecDepth 20000 in
theorem kb_N_init : mw_B yN_init bN_init 8 none 7 := ⟨mw_in (i := 87) rfl rfl, kn_N, by decide +kernel⟩
set_option maxRecDepth 20000 in
theorem kb_X_add : mw_B yX_add bX_add 3 (some .int) 2 := ⟨mw_in (i := 134) rfl rfl, kn_X, by decide +kernel⟩
set_option maxRecDepth 20000 in
theorem kb_X_refusalOfNew : mw_B yX_refusalOfNew bX_refusalOfNew 3 (some .int) 2 := ⟨mw_in (i := 138) rfl rfl, kn_X, by decide +kernel⟩
set_option maxRecDepth 20000 in
theorem kb_X_isName : mw_B yX_isName bX_isName 1 (some .boolean) 1 := ⟨mw_in (i := 141) rfl rfl, kn_X, by decide +kernel⟩
set_option maxRecDepth 20000 in
theorem kb_X_isRights : mw_B yX_isRights bX_isRights 1 (some .boolean) 1 := ⟨mw_in (i := 144) rfl rfl, kn_X, by decide +kernel⟩
set_option maxRecDepth 20000 in
theorem kb_C_own : mw_B yC_own bC_own 5 (some (.object "MemberFinder$MemberInfo")) 3 := ⟨mw_in (i := 148) rfl rfl, kn_C, by decide +kernel⟩
set_option maxRecDepth 20000 in
theorem kb_X_isForbiddenFromAbove : mw_B yX_isForbiddenFromAbove bX_isForbiddenFromAbove 6 (some .boolean) 2 := ⟨mw_in (i := 152) rfl rfl, kn_X, by decide +kernel⟩
set_option maxRecDepth 20000 in
theorem kb_C_ownObjectMethod : mw_B yC_ownObjectMethod bC_ownObjectMethod 4 (some (.object "MemberFinder$MemberInfo")) 2 := ⟨mw_in (i := 156) rfl rfl, kn_C, by decide +kernel⟩
set_option maxRecDepth 20000 in
theorem kb_N_isReachedBy : mw_B yN_isReachedBy bN_isReachedBy 2 (some .boolean) 1 := ⟨mw_in (i := 161) rfl rfl, kn_N, by decide +kernel⟩
set_option maxRecDepth 20000 in
theorem kb_X_overridesMethod : mw_B yX_overridesMethod bX_overridesMethod 7 (some .boolean) 2 := ⟨mw_in (i := 166) rfl rfl, kn_X, by decide +kernel⟩
set_option maxRecDepth 20000 in
theorem kb_X_isOverriddenByLine : mw_B yX_isOverriddenByLine bX_isOverriddenByLine 4 (some .boolean) 2 := ⟨mw_in (i := 170) rfl rfl, kn_X, by decide +kernel⟩
set_option maxRecDepth 20000 in
theorem kb_X_method : mw_B yX_method bX_method 8 (some .int) 6 := ⟨mw_in (i := 174) rfl rfl, kn_X, by decide +kernel⟩
set_option maxRecDepth 20000 in
theorem kb_X_maker : mw_B yX_maker bX_maker 5 (some .int) 3 := ⟨mw_in (i := 178) rfl rfl, kn_X, by decide +kernel⟩
set_option maxRecDepth 20000 in
theorem kb_X_find : mw_B yX_find bX_find 9 (some .int) 5 := ⟨mw_in (i := 182) rfl rfl, kn_X, by decide +kernel⟩
set_option maxRecDepth 20000 in
theorem kb_X_firstAsTold : mw_B yX_firstAsTold bX_firstAsTold 6 (some (.object "MemberFinder$MemberInfo")) 4 := ⟨mw_in (i := 185) rfl rfl, kn_X, by decide +kernel⟩
set_option maxRecDepth 20000 in
theorem kb_X_refused : mw_B yX_refused bX_refused 1 (some .int) 0 := ⟨mw_in (i := 189) rfl rfl, kn_X, by decide +kernel⟩
set_option maxRecDepth 20000 in
theorem kb_X_reaches : mw_B yX_reaches bX_reaches 5 (some .boolean) 2 := ⟨mw_in (i := 193) rfl rfl, kn_X, by decide +kernel⟩
set_option maxRecDepth 20000 in
theorem kb_X_memberAt : mw_B yX_memberAt bX_memberAt 2 (some (.object "MemberFinder$MemberInfo")) 1 := ⟨mw_in (i := 197) rfl rfl, kn_X, by decide +kernel⟩
set_option maxRecDepth 20000 in
theorem kb_X_called : mw_B yX_called bX_called 5 (some .int) 2 := ⟨mw_in (i := 201) rfl rfl, kn_X, by decide +kernel⟩
set_option maxRecDepth 20000 in
theorem kb_N_isObjectMethod : mw_B yN_isObjectMethod bN_isObjectMethod 1 (some .boolean) 0 := ⟨mw_in (i := 205) rfl rfl, kn_N, by decide +kernel⟩
set_option maxRecDepth 20000 in
theorem kb_X_calledMethod : mw_B yX_calledMethod bX_calledMethod 5 (some (.object "MemberFinder$MemberInfo")) 2 := ⟨mw_in (i := 209) rfl rfl, kn_X, by decide +kernel⟩
set_option maxRecDepth 20000 in
theorem kb_X_overrides : mw_B yX_overrides bX_overrides 5 (some .boolean) 2 := ⟨mw_in (i := 213) rfl rfl, kn_X, by decide +kernel⟩
set_option maxRecDepth 20000 in
theorem kb_X_member : mw_B yX_member bX_member 4 (some .int) 2 := ⟨mw_in (i := 217) rfl rfl, kn_X, by decide +kernel⟩
set_option maxRecDepth 20000 in
theorem kb_X_seen : mw_B yX_seen bX_seen 8 (some .int) 2 := ⟨mw_in (i := 221) rfl rfl, kn_X, by decide +kernel⟩
set_option maxRecDepth 20000 in
theorem kb_X_isHidden : mw_B yX_isHidden bX_isHidden 3 (some .boolean) 2 := ⟨mw_in (i := 225) rfl rfl, kn_X, by decide +kernel⟩
set_option maxRecDepth 20000 in
theorem kb_Y_init : mw_B yY_init bY_init 1 none 0 := ⟨mw_in (i := 230) rfl rfl, kn_Y, by decide +kernel⟩
set_option maxRecDepth 20000 in
theorem kb_Y_newClass : mw_B yY_newClass bY_newClass 3 (some .int) 2 := ⟨mw_in (i := 282) rfl rfl, kn_Y, by decide +kernel⟩
set_option maxRecDepth 20000 in
theorem kb_Y_isClass : mw_B yY_isClass bY_isClass 2 (some .boolean) 1 := ⟨mw_in (i := 286) rfl rfl, kn_Y, by decide +kernel⟩
set_option maxRecDepth 20000 in
theorem kb_Y_below : mw_B yY_below bY_below 3 (some .boolean) 2 := ⟨mw_in (i := 290) rfl rfl, kn_Y, by decide +kernel⟩
set_option maxRecDepth 20000 in
theorem kb_Y_isBelow : mw_B yY_isBelow bY_isBelow 4 (some .boolean) 2 := ⟨mw_in (i := 294) rfl rfl, kn_Y, by decide +kernel⟩
set_option maxRecDepth 20000 in
theorem kb_Y_field : mw_B yY_field bY_field 7 (some .int) 5 := ⟨mw_in (i := 298) rfl rfl, kn_Y, by decide +kernel⟩
set_option maxRecDepth 20000 in
theorem kb_Y_refuse : mw_B yY_refuse bY_refuse 2 (some .int) 1 := ⟨mw_in (i := 302) rfl rfl, kn_Y, by decide +kernel⟩
set_option maxRecDepth 20000 in
theorem kb_Y_outside : mw_B yY_outside bY_outside 2 (some .boolean) 2 := ⟨mw_in (i := 305) rfl rfl, kn_Y, by decide +kernel⟩
set_option maxRecDepth 20000 in
theorem kb_Y_tell : mw_B yY_tell bY_tell 8 none 7 := ⟨mw_in (i := 309) rfl rfl, kn_Y, by decide +kernel⟩
set_option maxRecDepth 20000 in
theorem kb_Y_told : mw_B yY_told bY_told 1 (some .int) 0 := ⟨mw_in (i := 313) rfl rfl, kn_Y, by decide +kernel⟩
set_option maxRecDepth 20000 in
theorem kb_Y_method : mw_B yY_method bY_method 9 (some .int) 6 := ⟨mw_in (i := 317) rfl rfl, kn_Y, by decide +kernel⟩
set_option maxRecDepth 20000 in
theorem kb_Y_ownIn : mw_B yY_ownIn bY_ownIn 5 (some .int) 3 := ⟨mw_in (i := 321) rfl rfl, kn_Y, by decide +kernel⟩
set_option maxRecDepth 20000 in
theorem kb_Y_isOwn : mw_B yY_isOwn bY_isOwn 2 (some .boolean) 1 := ⟨mw_in (i := 325) rfl rfl, kn_Y, by decide +kernel⟩
set_option maxRecDepth 20000 in
theorem kb_Y_doesReach : mw_B yY_doesReach bY_doesReach 4 (some .boolean) 2 := ⟨mw_in (i := 329) rfl rfl, kn_Y, by decide +kernel⟩
set_option maxRecDepth 20000 in
theorem kb_Y_goesAgainst : mw_B yY_goesAgainst bY_goesAgainst 7 (some .boolean) 4 := ⟨mw_in (i := 333) rfl rfl, kn_Y, by decide +kernel⟩
set_option maxRecDepth 20000 in
theorem kb_Y_gather : mw_B yY_gather bY_gather 6 none 3 := ⟨mw_in (i := 337) rfl rfl, kn_Y, by decide +kernel⟩
set_option maxRecDepth 20000 in
theorem kb_Y_relate : mw_B yY_relate bY_relate 12 none 2 := ⟨mw_in (i := 341) rfl rfl, kn_Y, by decide +kernel⟩
set_option maxRecDepth 20000 in
theorem kb_Y_maker : mw_B yY_maker bY_maker 5 (some .int) 3 := ⟨mw_in (i := 345) rfl rfl, kn_Y, by decide +kernel⟩
set_option maxRecDepth 20000 in
theorem kb_Y_find : mw_B yY_find bY_find 7 (some .int) 5 := ⟨mw_in (i := 349) rfl rfl, kn_Y, by decide +kernel⟩
set_option maxRecDepth 20000 in
theorem kb_Y_sought : mw_B yY_sought bY_sought 7 (some .int) 4 := ⟨mw_in (i := 353) rfl rfl, kn_Y, by decide +kernel⟩
set_option maxRecDepth 20000 in
theorem kb_Y_isSought : mw_B yY_isSought bY_isSought 5 (some .boolean) 4 := ⟨mw_in (i := 357) rfl rfl, kn_Y, by decide +kernel⟩
set_option maxRecDepth 20000 in
theorem kb_Y_refused : mw_B yY_refused bY_refused 1 (some .int) 0 := ⟨mw_in (i := 361) rfl rfl, kn_Y, by decide +kernel⟩
set_option maxRecDepth 20000 in
theorem kb_Y_reaches : mw_B yY_reaches bY_reaches 3 (some .boolean) 2 := ⟨mw_in (i := 365) rfl rfl, kn_Y, by decide +kernel⟩
set_option maxRecDepth 20000 in
theorem kb_Y_isMember : mw_B yY_isMember bY_isMember 2 (some .boolean) 1 := ⟨mw_in (i := 369) rfl rfl, kn_Y, by decide +kernel⟩
set_option maxRecDepth 20000 in
theorem kb_Y_called : mw_B yY_called bY_called 5 (some .int) 2 := ⟨mw_in (i := 373) rfl rfl, kn_Y, by decide +kernel⟩
set_option maxRecDepth 20000 in
theorem kb_Y_linkOf : mw_B yY_linkOf bY_linkOf 3 (some .int) 1 := ⟨mw_in (i := 377) rfl rfl, kn_Y, by decide +kernel⟩
set_option maxRecDepth 20000 in
theorem kb_Y_overrides : mw_B yY_overrides bY_overrides 3 (some .boolean) 2 := ⟨mw_in (i := 381) rfl rfl, kn_Y, by decide +kernel⟩
set_option maxRecDepth 20000 in
theorem kb_Y_member : mw_B yY_member bY_member 3 (some .int) 2 := ⟨mw_in (i := 385) rfl rfl, kn_Y, by decide +kernel⟩
set_option maxRecDepth 20000 in
theorem kb_Y_seen : mw_B yY_seen bY_seen 5 (some .int) 2 := ⟨mw_in (i := 389) rfl rfl, kn_Y, by decide +kernel⟩
set_option maxRecDepth 20000 in
theorem kb_Y_isHidden : mw_B yY_isHidden bY_isHidden 5 (some .boolean) 2 := ⟨mw_in (i := 393) rfl rfl, kn_Y, by decide +kernel⟩
set_option maxRecDepth 20000 in
theorem iC : ∀ w ∈ u_ws RC TC 4, w ∈ mw_tb := by
  intro w hw
  obtain ⟨k, hk, rfl⟩ := List.mem_map.mp hw
  have hk := List.mem_range.mp hk
  skip
  match k, hk with
  | 0, _ => exact mw_in (i := 59) rfl rfl
  | 1, _ => exact mw_in (i := 61) rfl rfl
  | 2, _ => exact mw_in (i := 63) rfl rfl
  | 3, _ => exact mw_in (i := 65) rfl rfl
  | k + 4, hk => exact absurd hk (by omega)
set_option maxRecDepth 20000 in
theorem iN : ∀ w ∈ u_ws RN TN 9, w ∈ mw_tb := by
  intro w hw
  obtain ⟨k, hk, rfl⟩ := List.mem_map.mp hw
  have hk := List.mem_range.mp hk
  skip
  match k, hk with
  | 0, _ => exact mw_in (i := 112) rfl rfl
  | 1, _ => exact mw_in (i := 114) rfl rfl
  | 2, _ => exact mw_in (i := 116) rfl rfl
  | 3, _ => exact mw_in (i := 118) rfl rfl
  | 4, _ => exact mw_in (i := 120) rfl rfl
  | 5, _ => exact mw_in (i := 122) rfl rfl
  | 6, _ => exact mw_in (i := 124) rfl rfl
  | 7, _ => exact mw_in (i := 126) rfl rfl
  | 8, _ => exact mw_in (i := 128) rfl rfl
  | k + 9, hk => exact absurd hk (by omega)
set_option maxRecDepth 20000 in
theorem iX : ∀ w ∈ u_ws RX TX 6, w ∈ mw_tb := by
  intro w hw
  obtain ⟨k, hk, rfl⟩ := List.mem_map.mp hw
  have hk := List.mem_range.mp hk
  skip
  match k, hk with
  | 0, _ => exact mw_in (i := 23) rfl rfl
  | 1, _ => exact mw_in (i := 25) rfl rfl
  | 2, _ => exact mw_in (i := 27) rfl rfl
  | 3, _ => exact mw_in (i := 29) rfl rfl
  | 4, _ => exact mw_in (i := 31) rfl rfl
  | 5, _ => exact mw_in (i := 33) rfl rfl
  | k + 6, hk => exact absurd hk (by omega)
set_option maxRecDepth 20000 in
theorem iY : ∀ w ∈ u_ws RY TY 15, w ∈ mw_tb := by
  intro w hw
  obtain ⟨k, hk, rfl⟩ := List.mem_map.mp hw
  have hk := List.mem_range.mp hk
  skip
  match k, hk with
  | 0, _ => exact mw_in (i := 247) rfl rfl
  | 1, _ => exact mw_in (i := 249) rfl rfl
  | 2, _ => exact mw_in (i := 251) rfl rfl
  | 3, _ => exact mw_in (i := 253) rfl rfl
  | 4, _ => exact mw_in (i := 255) rfl rfl
  | 5, _ => exact mw_in (i := 257) rfl rfl
  | 6, _ => exact mw_in (i := 259) rfl rfl
  | 7, _ => exact mw_in (i := 261) rfl rfl
  | 8, _ => exact mw_in (i := 263) rfl rfl
  | 9, _ => exact mw_in (i := 265) rfl rfl
  | 10, _ => exact mw_in (i := 267) rfl rfl
  | 11, _ => exact mw_in (i := 269) rfl rfl
  | 12, _ => exact mw_in (i := 271) rfl rfl
  | 13, _ => exact mw_in (i := 273) rfl rfl
  | 14, _ => exact mw_in (i := 275) rfl rfl
  | k + 15, hk => exact absurd hk (by omega)
