section
def lw_okq (q : MethodName × Nat) : Prop := (q.1.cls ≠ "java/lang/invoke/MethodHandle" ∧ q.1.cls ≠ "java/lang/invoke/VarHandle") ∧ Cond.instantiable q.1.cls q.2 ∈ tables_1 ∧ Cond.privateMethod q.1 ∈ tables_1 ∧ Cond.instanceMethod q.1 ∈ tables_1
theorem lw_p0 : lw_okq (⟨"MemberFinder", "classAt", "(I)LMemberFinder$ClassInfo;"⟩, 6) := ⟨⟨by decide +kernel, by decide +kernel⟩, List.mem_of_getElem? (i := 6) (by decide +kernel), List.mem_of_getElem? (i := 42) (by decide +kernel), List.mem_of_getElem? (i := 43) (by decide +kernel)⟩
theorem lw_p1 : lw_okq (⟨"MemberFinder", "refuse", "(I)I"⟩, 6) := ⟨⟨by decide +kernel, by decide +kernel⟩, List.mem_of_getElem? (i := 6) (by decide +kernel), List.mem_of_getElem? (i := 81) (by decide +kernel), List.mem_of_getElem? (i := 82) (by decide +kernel)⟩
theorem lw_p2 : lw_okq (⟨"MemberFinder", "add", "(LMemberFinder$ClassInfo;LMemberFinder$MemberInfo;)I"⟩, 6) := ⟨⟨by decide +kernel, by decide +kernel⟩, List.mem_of_getElem? (i := 6) (by decide +kernel), List.mem_of_getElem? (i := 132) (by decide +kernel), List.mem_of_getElem? (i := 133) (by decide +kernel)⟩
theorem lw_p3 : lw_okq (⟨"MemberFinder", "refusalOfNew", "(LMemberFinder$ClassInfo;LMemberFinder$MemberInfo;)I"⟩, 6) := ⟨⟨by decide +kernel, by decide +kernel⟩, List.mem_of_getElem? (i := 6) (by decide +kernel), List.mem_of_getElem? (i := 136) (by decide +kernel), List.mem_of_getElem? (i := 137) (by decide +kernel)⟩
theorem lw_p4 : lw_okq (⟨"MemberFinder", "isForbiddenFromAbove", "(LMemberFinder$ClassInfo;LMemberFinder$MemberInfo;)Z"⟩, 6) := ⟨⟨by decide +kernel, by decide +kernel⟩, List.mem_of_getElem? (i := 6) (by decide +kernel), List.mem_of_getElem? (i := 150) (by decide +kernel), List.mem_of_getElem? (i := 151) (by decide +kernel)⟩
theorem lw_p5 : lw_okq (⟨"MemberFinder", "overridesMethod", "(LMemberFinder$MemberInfo;LMemberFinder$MemberInfo;)Z"⟩, 6) := ⟨⟨by decide +kernel, by decide +kernel⟩, List.mem_of_getElem? (i := 6) (by decide +kernel), List.mem_of_getElem? (i := 164) (by decide +kernel), List.mem_of_getElem? (i := 165) (by decide +kernel)⟩
theorem lw_p6 : lw_okq (⟨"MemberFinder", "isOverriddenByLine", "(LMemberFinder$MemberInfo;I)Z"⟩, 6) := ⟨⟨by decide +kernel, by decide +kernel⟩, List.mem_of_getElem? (i := 6) (by decide +kernel), List.mem_of_getElem? (i := 168) (by decide +kernel), List.mem_of_getElem? (i := 169) (by decide +kernel)⟩
theorem lw_p7 : lw_okq (⟨"MemberFinder", "memberAt", "(I)LMemberFinder$MemberInfo;"⟩, 6) := ⟨⟨by decide +kernel, by decide +kernel⟩, List.mem_of_getElem? (i := 6) (by decide +kernel), List.mem_of_getElem? (i := 195) (by decide +kernel), List.mem_of_getElem? (i := 196) (by decide +kernel)⟩
theorem lw_p8 : lw_okq (⟨"MemberFinder", "calledMethod", "(LMemberFinder$MemberInfo;LMemberFinder$ClassInfo;)LMemberFinder$MemberInfo;"⟩, 6) := ⟨⟨by decide +kernel, by decide +kernel⟩, List.mem_of_getElem? (i := 6) (by decide +kernel), List.mem_of_getElem? (i := 207) (by decide +kernel), List.mem_of_getElem? (i := 208) (by decide +kernel)⟩
theorem lw_p9 : lw_okq (⟨"MemberFinder", "isHidden", "(LMemberFinder$MemberInfo;LMemberFinder$ClassInfo;)Z"⟩, 6) := ⟨⟨by decide +kernel, by decide +kernel⟩, List.mem_of_getElem? (i := 6) (by decide +kernel), List.mem_of_getElem? (i := 223) (by decide +kernel), List.mem_of_getElem? (i := 224) (by decide +kernel)⟩
theorem lw_p10 : lw_okq (⟨"MemberFinderModel", "isClass", "(I)Z"⟩, 15) := ⟨⟨by decide +kernel, by decide +kernel⟩, List.mem_of_getElem? (i := 227) (by decide +kernel), List.mem_of_getElem? (i := 284) (by decide +kernel), List.mem_of_getElem? (i := 285) (by decide +kernel)⟩
theorem lw_p11 : lw_okq (⟨"MemberFinderModel", "isBelow", "(II)Z"⟩, 15) := ⟨⟨by decide +kernel, by decide +kernel⟩, List.mem_of_getElem? (i := 227) (by decide +kernel), List.mem_of_getElem? (i := 292) (by decide +kernel), List.mem_of_getElem? (i := 293) (by decide +kernel)⟩
theorem lw_p12 : lw_okq (⟨"MemberFinderModel", "refuse", "(I)I"⟩, 15) := ⟨⟨by decide +kernel, by decide +kernel⟩, List.mem_of_getElem? (i := 227) (by decide +kernel), List.mem_of_getElem? (i := 300) (by decide +kernel), List.mem_of_getElem? (i := 301) (by decide +kernel)⟩
theorem lw_p13 : lw_okq (⟨"MemberFinderModel", "tell", "(IIIIZZI)V"⟩, 15) := ⟨⟨by decide +kernel, by decide +kernel⟩, List.mem_of_getElem? (i := 227) (by decide +kernel), List.mem_of_getElem? (i := 307) (by decide +kernel), List.mem_of_getElem? (i := 308) (by decide +kernel)⟩
theorem lw_p14 : lw_okq (⟨"MemberFinderModel", "told", "()I"⟩, 15) := ⟨⟨by decide +kernel, by decide +kernel⟩, List.mem_of_getElem? (i := 227) (by decide +kernel), List.mem_of_getElem? (i := 311) (by decide +kernel), List.mem_of_getElem? (i := 312) (by decide +kernel)⟩
theorem lw_p15 : lw_okq (⟨"MemberFinderModel", "ownIn", "(III)I"⟩, 15) := ⟨⟨by decide +kernel, by decide +kernel⟩, List.mem_of_getElem? (i := 227) (by decide +kernel), List.mem_of_getElem? (i := 319) (by decide +kernel), List.mem_of_getElem? (i := 320) (by decide +kernel)⟩
def lw_privs_1 : List (MethodName × Nat) := [(⟨"MemberFinder", "classAt", "(I)LMemberFinder$ClassInfo;"⟩, 6), (⟨"MemberFinder", "refuse", "(I)I"⟩, 6), (⟨"MemberFinder", "add", "(LMemberFinder$ClassInfo;LMemberFinder$MemberInfo;)I"⟩, 6), (⟨"MemberFinder", "refusalOfNew", "(LMemberFinder$ClassInfo;LMemberFinder$MemberInfo;)I"⟩, 6), (⟨"MemberFinder", "isForbiddenFromAbove", "(LMemberFinder$ClassInfo;LMemberFinder$MemberInfo;)Z"⟩, 6), (⟨"MemberFinder", "overridesMethod", "(LMemberFinder$MemberInfo;LMemberFinder$MemberInfo;)Z"⟩, 6), (⟨"MemberFinder", "isOverriddenByLine", "(LMemberFinder$MemberInfo;I)Z"⟩, 6), (⟨"MemberFinder", "memberAt", "(I)LMemberFinder$MemberInfo;"⟩, 6), (⟨"MemberFinder", "calledMethod", "(LMemberFinder$MemberInfo;LMemberFinder$ClassInfo;)LMemberFinder$MemberInfo;"⟩, 6), (⟨"MemberFinder", "isHidden", "(LMemberFinder$MemberInfo;LMemberFinder$ClassInfo;)Z"⟩, 6), (⟨"MemberFinderModel", "isClass", "(I)Z"⟩, 15), (⟨"MemberFinderModel", "isBelow", "(II)Z"⟩, 15), (⟨"MemberFinderModel", "refuse", "(I)I"⟩, 15), (⟨"MemberFinderModel", "tell", "(IIIIZZI)V"⟩, 15), (⟨"MemberFinderModel", "told", "()I"⟩, 15), (⟨"MemberFinderModel", "ownIn", "(III)I"⟩, 15)]
theorem lw_r1 : ∀ q ∈ lw_privs_1, lw_okq q := List.forall_mem_cons.mpr ⟨lw_p0, List.forall_mem_cons.mpr ⟨lw_p1, List.forall_mem_cons.mpr ⟨lw_p2, List.forall_mem_cons.mpr ⟨lw_p3, List.forall_mem_cons.mpr ⟨lw_p4, List.forall_mem_cons.mpr ⟨lw_p5, List.forall_mem_cons.mpr ⟨lw_p6, List.forall_mem_cons.mpr ⟨lw_p7, List.forall_mem_cons.mpr ⟨lw_p8, List.forall_mem_cons.mpr ⟨lw_p9, List.forall_mem_cons.mpr ⟨lw_p10, List.forall_mem_cons.mpr ⟨lw_p11, List.forall_mem_cons.mpr ⟨lw_p12, List.forall_mem_cons.mpr ⟨lw_p13, List.forall_mem_cons.mpr ⟨lw_p14, List.forall_mem_cons.mpr ⟨lw_p15, fun _ h => absurd h List.not_mem_nil⟩⟩⟩⟩⟩⟩⟩⟩⟩⟩⟩⟩⟩⟩⟩⟩
theorem lw_p16 : lw_okq (⟨"MemberFinderModel", "isOwn", "(I)Z"⟩, 15) := ⟨⟨by decide +kernel, by decide +kernel⟩, List.mem_of_getElem? (i := 227) (by decide +kernel), List.mem_of_getElem? (i := 323) (by decide +kernel), List.mem_of_getElem? (i := 324) (by decide +kernel)⟩
theorem lw_p17 : lw_okq (⟨"MemberFinderModel", "doesReach", "(II)Z"⟩, 15) := ⟨⟨by decide +kernel, by decide +kernel⟩, List.mem_of_getElem? (i := 227) (by decide +kernel), List.mem_of_getElem? (i := 327) (by decide +kernel), List.mem_of_getElem? (i := 328) (by decide +kernel)⟩
theorem lw_p18 : lw_okq (⟨"MemberFinderModel", "goesAgainst", "(IIII)Z"⟩, 15) := ⟨⟨by decide +kernel, by decide +kernel⟩, List.mem_of_getElem? (i := 227) (by decide +kernel), List.mem_of_getElem? (i := 331) (by decide +kernel), List.mem_of_getElem? (i := 332) (by decide +kernel)⟩
theorem lw_p19 : lw_okq (⟨"MemberFinderModel", "gather", "(III)V"⟩, 15) := ⟨⟨by decide +kernel, by decide +kernel⟩, List.mem_of_getElem? (i := 227) (by decide +kernel), List.mem_of_getElem? (i := 335) (by decide +kernel), List.mem_of_getElem? (i := 336) (by decide +kernel)⟩
theorem lw_p20 : lw_okq (⟨"MemberFinderModel", "relate", "(II)V"⟩, 15) := ⟨⟨by decide +kernel, by decide +kernel⟩, List.mem_of_getElem? (i := 227) (by decide +kernel), List.mem_of_getElem? (i := 339) (by decide +kernel), List.mem_of_getElem? (i := 340) (by decide +kernel)⟩
theorem lw_p21 : lw_okq (⟨"MemberFinderModel", "sought", "(IIII)I"⟩, 15) := ⟨⟨by decide +kernel, by decide +kernel⟩, List.mem_of_getElem? (i := 227) (by decide +kernel), List.mem_of_getElem? (i := 351) (by decide +kernel), List.mem_of_getElem? (i := 352) (by decide +kernel)⟩
theorem lw_p22 : lw_okq (⟨"MemberFinderModel", "isSought", "(IIII)Z"⟩, 15) := ⟨⟨by decide +kernel, by decide +kernel⟩, List.mem_of_getElem? (i := 227) (by decide +kernel), List.mem_of_getElem? (i := 355) (by decide +kernel), List.mem_of_getElem? (i := 356) (by decide +kernel)⟩
theorem lw_p23 : lw_okq (⟨"MemberFinderModel", "isMember", "(I)Z"⟩, 15) := ⟨⟨by decide +kernel, by decide +kernel⟩, List.mem_of_getElem? (i := 227) (by decide +kernel), List.mem_of_getElem? (i := 367) (by decide +kernel), List.mem_of_getElem? (i := 368) (by decide +kernel)⟩
theorem lw_p24 : lw_okq (⟨"MemberFinderModel", "linkOf", "(I)I"⟩, 15) := ⟨⟨by decide +kernel, by decide +kernel⟩, List.mem_of_getElem? (i := 227) (by decide +kernel), List.mem_of_getElem? (i := 375) (by decide +kernel), List.mem_of_getElem? (i := 376) (by decide +kernel)⟩
theorem lw_p25 : lw_okq (⟨"MemberFinderModel", "isHidden", "(II)Z"⟩, 15) := ⟨⟨by decide +kernel, by decide +kernel⟩, List.mem_of_getElem? (i := 227) (by decide +kernel), List.mem_of_getElem? (i := 391) (by decide +kernel), List.mem_of_getElem? (i := 392) (by decide +kernel)⟩
def lw_privs_2 : List (MethodName × Nat) := [(⟨"MemberFinderModel", "isOwn", "(I)Z"⟩, 15), (⟨"MemberFinderModel", "doesReach", "(II)Z"⟩, 15), (⟨"MemberFinderModel", "goesAgainst", "(IIII)Z"⟩, 15), (⟨"MemberFinderModel", "gather", "(III)V"⟩, 15), (⟨"MemberFinderModel", "relate", "(II)V"⟩, 15), (⟨"MemberFinderModel", "sought", "(IIII)I"⟩, 15), (⟨"MemberFinderModel", "isSought", "(IIII)Z"⟩, 15), (⟨"MemberFinderModel", "isMember", "(I)Z"⟩, 15), (⟨"MemberFinderModel", "linkOf", "(I)I"⟩, 15), (⟨"MemberFinderModel", "isHidden", "(II)Z"⟩, 15)]
theorem lw_r2 : ∀ q ∈ lw_privs_2, lw_okq q := List.forall_mem_cons.mpr ⟨lw_p16, List.forall_mem_cons.mpr ⟨lw_p17, List.forall_mem_cons.mpr ⟨lw_p18, List.forall_mem_cons.mpr ⟨lw_p19, List.forall_mem_cons.mpr ⟨lw_p20, List.forall_mem_cons.mpr ⟨lw_p21, List.forall_mem_cons.mpr ⟨lw_p22, List.forall_mem_cons.mpr ⟨lw_p23, List.forall_mem_cons.mpr ⟨lw_p24, List.forall_mem_cons.mpr ⟨lw_p25, fun _ h => absurd h List.not_mem_nil⟩⟩⟩⟩⟩⟩⟩⟩⟩⟩
def lw_privs : List (MethodName × Nat) := lw_privs_1 ++ (lw_privs_2)
def lw_tbl : List Cond := k2_sels lw_privs ++ tables_1
theorem lw_privs_ok : ∀ q ∈ lw_privs, lw_okq q := by
  show ∀ q ∈ lw_privs_1 ++ (lw_privs_2), lw_okq q
  exact List.forall_mem_append.mpr ⟨lw_r1, lw_r2⟩
end
section
def RX : String := "MemberFinder"
def RC : String := "MemberFinder$ClassInfo"
def RN : String := "MemberFinder$MemberInfo"
def RY : String := "MemberFinderModel"
def RL : String := "MemberFinderLaw"
def TC : u_T := fun k => match k with
  | 0 => ("MemberFinder$ClassInfo", "number", "I", true)
  | 1 => ("MemberFinder$ClassInfo", "parent", "LMemberFinder$ClassInfo;", true)
  | 2 => ("MemberFinder$ClassInfo", "pack", "I", true)
  | _ => ("MemberFinder$ClassInfo", "latest", "LMemberFinder$MemberInfo;", false)
def tC : Nat → FieldType := fun k => match k with
  | 0 => .int
  | 1 => (.object "MemberFinder$ClassInfo")
  | 2 => .int
  | _ => (.object "MemberFinder$MemberInfo")
theorem nC : ∀ a, a < 4 → ∀ b, b < 4 → a ≠ b → (TC a).2.1 ≠ (TC b).2.1 := by decide +kernel
theorem tC_ok : ∀ k, k < 4 → parseFieldDescriptor (TC k).2.2.1 = some (tC k) := by decide +kernel
def TN : u_T := fun k => match k with
  | 0 => ("MemberFinder$MemberInfo", "home", "LMemberFinder$ClassInfo;", true)
  | 1 => ("MemberFinder$MemberInfo", "kind", "I", true)
  | 2 => ("MemberFinder$MemberInfo", "name", "I", true)
  | 3 => ("MemberFinder$MemberInfo", "type", "I", true)
  | 4 => ("MemberFinder$MemberInfo", "isStatic", "Z", true)
  | 5 => ("MemberFinder$MemberInfo", "isFinal", "Z", true)
  | 6 => ("MemberFinder$MemberInfo", "rights", "I", true)
  | 7 => ("MemberFinder$MemberInfo", "number", "I", false)
  | _ => ("MemberFinder$MemberInfo", "earlier", "LMemberFinder$MemberInfo;", false)
def tN : Nat → FieldType := fun k => match k with
  | 0 => (.object "MemberFinder$ClassInfo")
  | 1 => .int
  | 2 => .int
  | 3 => .int
  | 4 => .boolean
  | 5 => .boolean
  | 6 => .int
  | 7 => .int
  | _ => (.object "MemberFinder$MemberInfo")
theorem nN : ∀ a, a < 9 → ∀ b, b < 9 → a ≠ b → (TN a).2.1 ≠ (TN b).2.1 := by decide +kernel
theorem tN_ok : ∀ k, k < 9 → parseFieldDescriptor (TN k).2.2.1 = some (tN k) := by decide +kernel
def TX : u_T := fun k => match k with
  | 0 => ("MemberFinder", "classes", "[LMemberFinder$ClassInfo;", true)
  | 1 => ("MemberFinder", "classCount", "I", false)
  | 2 => ("MemberFinder", "members", "[LMemberFinder$MemberInfo;", true)
  | 3 => ("MemberFinder", "memberCount", "I", false)
  | 4 => ("MemberFinder", "refusal", "I", false)
  | _ => ("MemberFinder", "linePacks", "[I", true)
def tX : Nat → FieldType := fun k => match k with
  | 0 => (.array (.object "MemberFinder$ClassInfo"))
  | 1 => .int
  | 2 => (.array (.object "MemberFinder$MemberInfo"))
  | 3 => .int
  | 4 => .int
  | _ => (.array .int)
theorem nX : ∀ a, a < 6 → ∀ b, b < 6 → a ≠ b → (TX a).2.1 ≠ (TX b).2.1 := by decide +kernel
theorem tX_ok : ∀ k, k < 6 → parseFieldDescriptor (TX k).2.2.1 = some (tX k) := by decide +kernel
def TY : u_T := fun k => match k with
  | 0 => ("MemberFinderModel", "parent", "[I", true)
  | 1 => ("MemberFinderModel", "pack", "[I", true)
  | 2 => ("MemberFinderModel", "classes", "I", false)
  | 3 => ("MemberFinderModel", "memberClass", "[I", true)
  | 4 => ("MemberFinderModel", "memberName", "[I", true)
  | 5 => ("MemberFinderModel", "rights", "[I", true)
  | 6 => ("MemberFinderModel", "sort", "[I", true)
  | 7 => ("MemberFinderModel", "type", "[I", true)
  | 8 => ("MemberFinderModel", "fixed", "[Z", true)
  | 9 => ("MemberFinderModel", "last", "[Z", true)
  | 10 => ("MemberFinderModel", "members", "I", false)
  | 11 => ("MemberFinderModel", "refused", "I", false)
  | 12 => ("MemberFinderModel", "chain", "[I", true)
  | 13 => ("MemberFinderModel", "links", "I", false)
  | _ => ("MemberFinderModel", "over", "[Z", true)
def tY : Nat → FieldType := fun k => match k with
  | 0 => (.array .int)
  | 1 => (.array .int)
  | 2 => .int
  | 3 => (.array .int)
  | 4 => (.array .int)
  | 5 => (.array .int)
  | 6 => (.array .int)
  | 7 => (.array .int)
  | 8 => (.array .boolean)
  | 9 => (.array .boolean)
  | 10 => .int
  | 11 => .int
  | 12 => (.array .int)
  | 13 => .int
  | _ => (.array .boolean)
theorem nY : ∀ a, a < 15 → ∀ b, b < 15 → a ≠ b → (TY a).2.1 ≠ (TY b).2.1 := by decide +kernel
theorem tY_ok : ∀ k, k < 15 → parseFieldDescriptor (TY k).2.2.1 = some (tY k) := by decide +kernel
abbrev ciC : Nat := 0
abbrev ciN : Nat := 1
abbrev ciX : Nat := 2
abbrev ciY : Nat := 3
abbrev vwCl : List vw_C := [(RC, TC, 4), (RN, TN, 9), (RX, TX, 6), (RY, TY, 15)]
abbrev bX_init : ByteArray := prog_1_method_1_code
def yX_init : MethodName := ⟨RX, "<init>", "()V"⟩
abbrev bX_newClass : ByteArray := prog_1_method_2_code
def yX_newClass : MethodName := ⟨RX, "newClass", "(II)I"⟩
abbrev bX_classAt : ByteArray := prog_1_method_14_code
def yX_classAt : MethodName := ⟨RX, "classAt", "(I)LMemberFinder$ClassInfo;"⟩
abbrev bC_init : ByteArray := prog_2_method_1_code
def yC_init : MethodName := ⟨RC, "<init>", "(ILMemberFinder$ClassInfo;I)V"⟩
abbrev bX_below : ByteArray := prog_1_method_3_code
def yX_below : MethodName := ⟨RX, "below", "(II)Z"⟩
abbrev bC_isBelow : ByteArray := prog_2_method_2_code
def yC_isBelow : MethodName := ⟨RC, "isBelow", "(LMemberFinder$ClassInfo;)Z"⟩
abbrev bX_field : ByteArray := prog_1_method_4_code
def yX_field : MethodName := ⟨RX, "field", "(IIZZI)I"⟩
abbrev bX_refuse : ByteArray := prog_1_method_18_code
def yX_refuse : MethodName := ⟨RX, "refuse", "(I)I"⟩
abbrev bN_init : ByteArray := prog_3_method_1_code
def yN_init : MethodName := ⟨RN, "<init>", "(LMemberFinder$ClassInfo;IIIZZI)V"⟩
abbrev bX_add : ByteArray := prog_1_method_19_code
def yX_add : MethodName := ⟨RX, "add", "(LMemberFinder$ClassInfo;LMemberFinder$MemberInfo;)I"⟩
abbrev bX_refusalOfNew : ByteArray := prog_1_method_20_code
def yX_refusalOfNew : MethodName := ⟨RX, "refusalOfNew", "(LMemberFinder$ClassInfo;LMemberFinder$MemberInfo;)I"⟩
abbrev bX_isName : ByteArray := prog_1_method_16_code
def yX_isName : MethodName := ⟨RX, "isName", "(I)Z"⟩
abbrev bX_isRights : ByteArray := prog_1_method_17_code
def yX_isRights : MethodName := ⟨RX, "isRights", "(I)Z"⟩
abbrev bC_own : ByteArray := prog_2_method_3_code
def yC_own : MethodName := ⟨RC, "own", "(III)LMemberFinder$MemberInfo;"⟩
abbrev bX_isForbiddenFromAbove : ByteArray := prog_1_method_21_code
def yX_isForbiddenFromAbove : MethodName := ⟨RX, "isForbiddenFromAbove", "(LMemberFinder$ClassInfo;LMemberFinder$MemberInfo;)Z"⟩
abbrev bC_ownObjectMethod : ByteArray := prog_2_method_4_code
def yC_ownObjectMethod : MethodName := ⟨RC, "ownObjectMethod", "(II)LMemberFinder$MemberInfo;"⟩
abbrev bN_isReachedBy : ByteArray := prog_3_method_3_code
def yN_isReachedBy : MethodName := ⟨RN, "isReachedBy", "(LMemberFinder$ClassInfo;)Z"⟩
abbrev bX_overridesMethod : ByteArray := prog_1_method_23_code
def yX_overridesMethod : MethodName := ⟨RX, "overridesMethod", "(LMemberFinder$MemberInfo;LMemberFinder$MemberInfo;)Z"⟩
abbrev bX_isOverriddenByLine : ByteArray := prog_1_method_24_code
def yX_isOverriddenByLine : MethodName := ⟨RX, "isOverriddenByLine", "(LMemberFinder$MemberInfo;I)Z"⟩
abbrev bX_method : ByteArray := prog_1_method_5_code
def yX_method : MethodName := ⟨RX, "method", "(IIIZZI)I"⟩
abbrev bX_maker : ByteArray := prog_1_method_6_code
def yX_maker : MethodName := ⟨RX, "maker", "(III)I"⟩
abbrev bX_find : ByteArray := prog_1_method_7_code
def yX_find : MethodName := ⟨RX, "find", "(IIIII)I"⟩
abbrev bX_firstAsTold : ByteArray := prog_1_method_22_code
def yX_firstAsTold : MethodName := ⟨RX, "firstAsTold", "(LMemberFinder$ClassInfo;III)LMemberFinder$MemberInfo;"⟩
abbrev bX_refused : ByteArray := prog_1_method_8_code
def yX_refused : MethodName := ⟨RX, "refused", "()I"⟩
abbrev bX_reaches : ByteArray := prog_1_method_9_code
def yX_reaches : MethodName := ⟨RX, "reaches", "(II)Z"⟩
abbrev bX_memberAt : ByteArray := prog_1_method_15_code
def yX_memberAt : MethodName := ⟨RX, "memberAt", "(I)LMemberFinder$MemberInfo;"⟩
abbrev bX_called : ByteArray := prog_1_method_10_code
def yX_called : MethodName := ⟨RX, "called", "(II)I"⟩
abbrev bN_isObjectMethod : ByteArray := prog_3_method_2_code
def yN_isObjectMethod : MethodName := ⟨RN, "isObjectMethod", "()Z"⟩
abbrev bX_calledMethod : ByteArray := prog_1_method_25_code
def yX_calledMethod : MethodName := ⟨RX, "calledMethod", "(LMemberFinder$MemberInfo;LMemberFinder$ClassInfo;)LMemberFinder$MemberInfo;"⟩
abbrev bX_overrides : ByteArray := prog_1_method_11_code
def yX_overrides : MethodName := ⟨RX, "overrides", "(II)Z"⟩
abbrev bX_member : ByteArray := prog_1_method_12_code
def yX_member : MethodName := ⟨RX, "member", "(II)I"⟩
abbrev bX_seen : ByteArray := prog_1_method_13_code
def yX_seen : MethodName := ⟨RX, "seen", "(II)I"⟩
abbrev bX_isHidden : ByteArray := prog_1_method_26_code
def yX_isHidden : MethodName := ⟨RX, "isHidden", "(LMemberFinder$MemberInfo;LMemberFinder$ClassInfo;)Z"⟩
abbrev bY_init : ByteArray := prog_5_method_1_code
def yY_init : MethodName := ⟨RY, "<init>", "()V"⟩
abbrev bY_newClass : ByteArray := prog_5_method_8_code
def yY_newClass : MethodName := ⟨RY, "newClass", "(II)I"⟩
abbrev bY_isClass : ByteArray := prog_5_method_3_code
def yY_isClass : MethodName := ⟨RY, "isClass", "(I)Z"⟩
abbrev bY_below : ByteArray := prog_5_method_9_code
def yY_below : MethodName := ⟨RY, "below", "(II)Z"⟩
abbrev bY_isBelow : ByteArray := prog_5_method_5_code
def yY_isBelow : MethodName := ⟨RY, "isBelow", "(II)Z"⟩
abbrev bY_field : ByteArray := prog_5_method_13_code
def yY_field : MethodName := ⟨RY, "field", "(IIZZI)I"⟩
abbrev bY_refuse : ByteArray := prog_5_method_7_code
def yY_refuse : MethodName := ⟨RY, "refuse", "(I)I"⟩
abbrev bY_outside : ByteArray := prog_5_method_12_code
def yY_outside : MethodName := ⟨RY, "outside", "(II)Z"⟩
abbrev bY_tell : ByteArray := prog_5_method_10_code
def yY_tell : MethodName := ⟨RY, "tell", "(IIIIZZI)V"⟩
abbrev bY_told : ByteArray := prog_5_method_11_code
def yY_told : MethodName := ⟨RY, "told", "()I"⟩
abbrev bY_method : ByteArray := prog_5_method_15_code
def yY_method : MethodName := ⟨RY, "method", "(IIIZZI)I"⟩
abbrev bY_ownIn : ByteArray := prog_5_method_14_code
def yY_ownIn : MethodName := ⟨RY, "ownIn", "(III)I"⟩
abbrev bY_isOwn : ByteArray := prog_5_method_6_code
def yY_isOwn : MethodName := ⟨RY, "isOwn", "(I)Z"⟩
abbrev bY_doesReach : ByteArray := prog_5_method_20_code
def yY_doesReach : MethodName := ⟨RY, "doesReach", "(II)Z"⟩
abbrev bY_goesAgainst : ByteArray := prog_5_method_18_code
def yY_goesAgainst : MethodName := ⟨RY, "goesAgainst", "(IIII)Z"⟩
abbrev bY_gather : ByteArray := prog_5_method_16_code
def yY_gather : MethodName := ⟨RY, "gather", "(III)V"⟩
abbrev bY_relate : ByteArray := prog_5_method_17_code
def yY_relate : MethodName := ⟨RY, "relate", "(II)V"⟩
abbrev bY_maker : ByteArray := prog_5_method_19_code
def yY_maker : MethodName := ⟨RY, "maker", "(III)I"⟩
abbrev bY_find : ByteArray := prog_5_method_23_code
def yY_find : MethodName := ⟨RY, "find", "(IIIII)I"⟩
abbrev bY_sought : ByteArray := prog_5_method_22_code
def yY_sought : MethodName := ⟨RY, "sought", "(IIII)I"⟩
abbrev bY_isSought : ByteArray := prog_5_method_21_code
def yY_isSought : MethodName := ⟨RY, "isSought", "(IIII)Z"⟩
abbrev bY_refused : ByteArray := prog_5_method_24_code
def yY_refused : MethodName := ⟨RY, "refused", "()I"⟩
abbrev bY_reaches : ByteArray := prog_5_method_25_code
def yY_reaches : MethodName := ⟨RY, "reaches", "(II)Z"⟩
abbrev bY_isMember : ByteArray := prog_5_method_4_code
def yY_isMember : MethodName := ⟨RY, "isMember", "(I)Z"⟩
abbrev bY_called : ByteArray := prog_5_method_27_code
def yY_called : MethodName := ⟨RY, "called", "(II)I"⟩
abbrev bY_linkOf : ByteArray := prog_5_method_26_code
def yY_linkOf : MethodName := ⟨RY, "linkOf", "(I)I"⟩
abbrev bY_overrides : ByteArray := prog_5_method_28_code
def yY_overrides : MethodName := ⟨RY, "overrides", "(II)Z"⟩
abbrev bY_member : ByteArray := prog_5_method_29_code
def yY_member : MethodName := ⟨RY, "member", "(II)I"⟩
abbrev bY_seen : ByteArray := prog_5_method_31_code
def yY_seen : MethodName := ⟨RY, "seen", "(II)I"⟩
abbrev bY_isHidden : ByteArray := prog_5_method_30_code
def yY_isHidden : MethodName := ⟨RY, "isHidden", "(II)Z"⟩
abbrev bL_law : ByteArray := code
def mw_tb : List Cond := lw_tbl.filter goodWord
theorem mw_good : ∀ w ∈ mw_tb, (w.onTables && w.keeps) = true ∨ ∃ ty, w = .arrayClass ty := fun w h => good_of_word (List.mem_filter.mp h).2
theorem mw_in {w : Cond} {i : Nat} (h : tables_1[i]? = some w) (hg : goodWord w = true) : w ∈ mw_tb := List.mem_filter.mpr ⟨List.mem_append_right _ (List.mem_of_getElem? h), hg⟩
theorem mw_ins {w : Cond} {i : Nat} (h : (k2_sels lw_privs)[i]? = some w) (hg : goodWord w = true) : w ∈ mw_tb := List.mem_filter.mpr ⟨List.mem_append_left _ (List.mem_of_getElem? h), hg⟩
set_option maxRecDepth 20000 in
theorem kn_L : Cond.initialized RL ∈ mw_tb := mw_in (i := 0) rfl rfl
set_option maxRecDepth 20000 in
theorem kn_X : Cond.initialized RX ∈ mw_tb := mw_in (i := 1) rfl rfl
set_option maxRecDepth 20000 in
theorem kn_Y : Cond.initialized RY ∈ mw_tb := mw_in (i := 2) rfl rfl
set_option maxRecDepth 20000 in
theorem kn_C : Cond.initialized RC ∈ mw_tb := mw_in (i := 3) rfl rfl
set_option maxRecDepth 20000 in
theorem kn_N : Cond.initialized RN ∈ mw_tb := mw_in (i := 4) rfl rfl
set_option maxRecDepth 20000 in
theorem kc_L_7 : Cond.classLink RL 7 RX ∈ mw_tb := mw_in (i := 5) rfl rfl
set_option maxRecDepth 20000 in
theorem kj_X : Cond.instantiable RX 6 ∈ mw_tb := mw_in (i := 6) rfl rfl
set_option maxRecDepth 20000 in
theorem kl_L_9 : Cond.methodLink RL 9 yX_init ∈ mw_tb := mw_in (i := 7) rfl rfl
set_option maxRecDepth 20000 in
theorem ki_X_init : Cond.instanceMethod yX_init ∈ mw_tb := mw_in (i := 8) rfl rfl
set_option maxRecDepth 20000 in
theorem kl_X_1 : Cond.methodLink RX 1 objectInit ∈ mw_tb := mw_in (i := 10) rfl rfl
set_option maxRecDepth 20000 in
theorem ki_obj : Cond.instanceMethod objectInit ∈ mw_tb := mw_in (i := 11) rfl rfl
set_option maxRecDepth 20000 in
theorem kb_obj : Cond.code objectInit ⟨#[0xb1]⟩ 1 none ∈ mw_tb := mw_in (i := 12) rfl rfl
set_option maxRecDepth 20000 in
theorem kc_X_9 : Cond.classLink RX 9 RC ∈ mw_tb := mw_in (i := 13) rfl rfl
set_option maxRecDepth 20000 in
theorem ko_C : Cond.arrayOver (.object RC) ∈ lw_tbl := List.mem_append_right _ (List.mem_of_getElem? (i := 14) rfl)
set_option maxRecDepth 20000 in
theorem kc_X_15 : Cond.classLink RX 15 RN ∈ mw_tb := mw_in (i := 15) rfl rfl
set_option maxRecDepth 20000 in
theorem ko_N : Cond.arrayOver (.object RN) ∈ lw_tbl := List.mem_append_right _ (List.mem_of_getElem? (i := 16) rfl)
set_option maxRecDepth 20000 in
theorem kf_X_11 : Cond.fieldLink RX 11 RX "classes" "[LMemberFinder$ClassInfo;" ∈ mw_tb := mw_in (i := 17) rfl rfl
set_option maxRecDepth 20000 in
theorem kf_X_25 : Cond.fieldLink RX 25 RX "classCount" "I" ∈ mw_tb := mw_in (i := 18) rfl rfl
set_option maxRecDepth 20000 in
theorem kf_X_17 : Cond.fieldLink RX 17 RX "members" "[LMemberFinder$MemberInfo;" ∈ mw_tb := mw_in (i := 19) rfl rfl
set_option maxRecDepth 20000 in
theorem kf_X_29 : Cond.fieldLink RX 29 RX "memberCount" "I" ∈ mw_tb := mw_in (i := 20) rfl rfl
set_option maxRecDepth 20000 in
theorem kf_X_32 : Cond.fieldLink RX 32 RX "refusal" "I" ∈ mw_tb := mw_in (i := 21) rfl rfl
set_option maxRecDepth 20000 in
theorem kf_X_21 : Cond.fieldLink RX 21 RX "linePacks" "[I" ∈ mw_tb := mw_in (i := 22) rfl rfl
set_option maxRecDepth 20000 in
theorem ka_int : Cond.arrayClass .int ∈ mw_tb := mw_in (i := 36) rfl rfl
set_option maxRecDepth 20000 in
theorem kl_L_13 : Cond.methodLink RL 13 yX_newClass ∈ mw_tb := mw_in (i := 37) rfl rfl
set_option maxRecDepth 20000 in
theorem ki_X_newClass : Cond.instanceMethod yX_newClass ∈ mw_tb := mw_in (i := 38) rfl rfl
set_option maxRecDepth 20000 in
theorem ks_X_newClass : Cond.selects RX yX_newClass yX_newClass ∈ mw_tb := mw_in (i := 39) rfl rfl
set_option maxRecDepth 20000 in
theorem kl_X_35 : Cond.methodLink RX 35 yX_classAt ∈ mw_tb := mw_in (i := 41) rfl rfl
set_option maxRecDepth 20000 in
theorem ki_X_classAt : Cond.instanceMethod yX_classAt ∈ mw_tb := mw_in (i := 43) rfl rfl
set_option maxRecDepth 20000 in
theorem kj_C : Cond.instantiable RC 4 ∈ mw_tb := mw_in (i := 45) rfl rfl
set_option maxRecDepth 20000 in
theorem kl_X_39 : Cond.methodLink RX 39 yC_init ∈ mw_tb := mw_in (i := 46) rfl rfl
set_option maxRecDepth 20000 in
theorem ki_C_init : Cond.instanceMethod yC_init ∈ mw_tb := mw_in (i := 47) rfl rfl
set_option maxRecDepth 20000 in
theorem kl_C_3 : Cond.methodLink RC 3 objectInit ∈ mw_tb := mw_in (i := 49) rfl rfl
set_option maxRecDepth 20000 in
theorem kf_C_9 : Cond.fieldLink RC 9 RC "number" "I" ∈ mw_tb := mw_in (i := 50) rfl rfl
set_option maxRecDepth 20000 in
theorem kf_X_101 : Cond.fieldLink RX 101 RC "number" "I" ∈ mw_tb := mw_in (i := 51) rfl rfl
set_option maxRecDepth 20000 in
theorem kf_C_15 : Cond.fieldLink RC 15 RC "parent" "LMemberFinder$ClassInfo;" ∈ mw_tb := mw_in (i := 52) rfl rfl
set_option maxRecDepth 20000 in
theorem kf_X_122 : Cond.fieldLink RX 122 RC "parent" "LMemberFinder$ClassInfo;" ∈ mw_tb := mw_in (i := 53) rfl rfl
set_option maxRecDepth 20000 in
theorem kf_C_19 : Cond.fieldLink RC 19 RC "pack" "I" ∈ mw_tb := mw_in (i := 54) rfl rfl
set_option maxRecDepth 20000 in
theorem kf_N_42 : Cond.fieldLink RN 42 RC "pack" "I" ∈ mw_tb := mw_in (i := 55) rfl rfl
set_option maxRecDepth 20000 in
theorem kf_X_143 : Cond.fieldLink RX 143 RC "pack" "I" ∈ mw_tb := mw_in (i := 56) rfl rfl
set_option maxRecDepth 20000 in
theorem kf_C_22 : Cond.fieldLink RC 22 RC "latest" "LMemberFinder$MemberInfo;" ∈ mw_tb := mw_in (i := 57) rfl rfl
set_option maxRecDepth 20000 in
theorem kf_X_111 : Cond.fieldLink RX 111 RC "latest" "LMemberFinder$MemberInfo;" ∈ mw_tb := mw_in (i := 58) rfl rfl
set_option maxRecDepth 20000 in
theorem kl_L_18 : Cond.methodLink RL 18 yX_below ∈ mw_tb := mw_in (i := 68) rfl rfl
set_option maxRecDepth 20000 in
theorem ki_X_below : Cond.instanceMethod yX_below ∈ mw_tb := mw_in (i := 69) rfl rfl
set_option maxRecDepth 20000 in
theorem ks_X_below : Cond.selects RX yX_below yX_below ∈ mw_tb := mw_in (i := 70) rfl rfl
set_option maxRecDepth 20000 in
theorem kl_X_42 : Cond.methodLink RX 42 yC_isBelow ∈ mw_tb := mw_in (i := 72) rfl rfl
set_option maxRecDepth 20000 in
theorem ki_C_isBelow : Cond.instanceMethod yC_isBelow ∈ mw_tb := mw_in (i := 73) rfl rfl
set_option maxRecDepth 20000 in
theorem ks_C_isBelow : Cond.selects RC yC_isBelow yC_isBelow ∈ mw_tb := mw_in (i := 74) rfl rfl
set_option maxRecDepth 20000 in
theorem kl_L_23 : Cond.methodLink RL 23 yX_field ∈ mw_tb := mw_in (i := 76) rfl rfl
set_option maxRecDepth 20000 in
theorem ki_X_field : Cond.instanceMethod yX_field ∈ mw_tb := mw_in (i := 77) rfl rfl
set_option maxRecDepth 20000 in
theorem ks_X_field : Cond.selects RX yX_field yX_field ∈ mw_tb := mw_in (i := 78) rfl rfl
set_option maxRecDepth 20000 in
theorem kl_X_46 : Cond.methodLink RX 46 yX_refuse ∈ mw_tb := mw_in (i := 80) rfl rfl
set_option maxRecDepth 20000 in
theorem ki_X_refuse : Cond.instanceMethod yX_refuse ∈ mw_tb := mw_in (i := 82) rfl rfl
set_option maxRecDepth 20000 in
theorem kj_N : Cond.instantiable RN 9 ∈ mw_tb := mw_in (i := 84) rfl rfl
set_option maxRecDepth 20000 in
theorem kl_X_50 : Cond.methodLink RX 50 yN_init ∈ mw_tb := mw_in (i := 85) rfl rfl
set_option maxRecDepth 20000 in
theorem ki_N_init : Cond.instanceMethod yN_init ∈ mw_tb := mw_in (i := 86) rfl rfl
set_option maxRecDepth 20000 in
theorem kl_N_3 : Cond.methodLink RN 3 objectInit ∈ mw_tb := mw_in (i := 88) rfl rfl
set_option maxRecDepth 20000 in
theorem kf_N_9 : Cond.fieldLink RN 9 RN "home" "LMemberFinder$ClassInfo;" ∈ mw_tb := mw_in (i := 89) rfl rfl
set_option maxRecDepth 20000 in
theorem kf_X_72 : Cond.fieldLink RX 72 RN "home" "LMemberFinder$ClassInfo;" ∈ mw_tb := mw_in (i := 90) rfl rfl
set_option maxRecDepth 20000 in
theorem kf_N_15 : Cond.fieldLink RN 15 RN "kind" "I" ∈ mw_tb := mw_in (i := 91) rfl rfl
set_option maxRecDepth 20000 in
theorem kf_C_26 : Cond.fieldLink RC 26 RN "kind" "I" ∈ mw_tb := mw_in (i := 92) rfl rfl
set_option maxRecDepth 20000 in
theorem kf_X_108 : Cond.fieldLink RX 108 RN "kind" "I" ∈ mw_tb := mw_in (i := 93) rfl rfl
set_option maxRecDepth 20000 in
theorem kf_N_19 : Cond.fieldLink RN 19 RN "name" "I" ∈ mw_tb := mw_in (i := 94) rfl rfl
set_option maxRecDepth 20000 in
theorem kf_C_31 : Cond.fieldLink RC 31 RN "name" "I" ∈ mw_tb := mw_in (i := 95) rfl rfl
set_option maxRecDepth 20000 in
theorem kf_X_91 : Cond.fieldLink RX 91 RN "name" "I" ∈ mw_tb := mw_in (i := 96) rfl rfl
set_option maxRecDepth 20000 in
theorem kf_N_22 : Cond.fieldLink RN 22 RN "type" "I" ∈ mw_tb := mw_in (i := 97) rfl rfl
set_option maxRecDepth 20000 in
theorem kf_C_34 : Cond.fieldLink RC 34 RN "type" "I" ∈ mw_tb := mw_in (i := 98) rfl rfl
set_option maxRecDepth 20000 in
theorem kf_X_94 : Cond.fieldLink RX 94 RN "type" "I" ∈ mw_tb := mw_in (i := 99) rfl rfl
set_option maxRecDepth 20000 in
theorem kf_N_25 : Cond.fieldLink RN 25 RN "isStatic" "Z" ∈ mw_tb := mw_in (i := 100) rfl rfl
set_option maxRecDepth 20000 in
theorem kf_C_44 : Cond.fieldLink RC 44 RN "isStatic" "Z" ∈ mw_tb := mw_in (i := 101) rfl rfl
set_option maxRecDepth 20000 in
theorem kf_X_105 : Cond.fieldLink RX 105 RN "isStatic" "Z" ∈ mw_tb := mw_in (i := 102) rfl rfl
set_option maxRecDepth 20000 in
theorem kf_N_29 : Cond.fieldLink RN 29 RN "isFinal" "Z" ∈ mw_tb := mw_in (i := 103) rfl rfl
set_option maxRecDepth 20000 in
theorem kf_X_68 : Cond.fieldLink RX 68 RN "isFinal" "Z" ∈ mw_tb := mw_in (i := 104) rfl rfl
set_option maxRecDepth 20000 in
theorem kf_N_32 : Cond.fieldLink RN 32 RN "rights" "I" ∈ mw_tb := mw_in (i := 105) rfl rfl
set_option maxRecDepth 20000 in
theorem kf_X_102 : Cond.fieldLink RX 102 RN "rights" "I" ∈ mw_tb := mw_in (i := 106) rfl rfl
set_option maxRecDepth 20000 in
theorem kf_N_35 : Cond.fieldLink RN 35 RN "number" "I" ∈ mw_tb := mw_in (i := 107) rfl rfl
set_option maxRecDepth 20000 in
theorem kf_X_76 : Cond.fieldLink RX 76 RN "number" "I" ∈ mw_tb := mw_in (i := 108) rfl rfl
set_option maxRecDepth 20000 in
theorem kf_N_38 : Cond.fieldLink RN 38 RN "earlier" "LMemberFinder$MemberInfo;" ∈ mw_tb := mw_in (i := 109) rfl rfl
set_option maxRecDepth 20000 in
theorem kf_C_37 : Cond.fieldLink RC 37 RN "earlier" "LMemberFinder$MemberInfo;" ∈ mw_tb := mw_in (i := 110) rfl rfl
set_option maxRecDepth 20000 in
theorem kf_X_119 : Cond.fieldLink RX 119 RN "earlier" "LMemberFinder$MemberInfo;" ∈ mw_tb := mw_in (i := 111) rfl rfl
set_option maxRecDepth 20000 in
theorem kl_X_53 : Cond.methodLink RX 53 yX_add ∈ mw_tb := mw_in (i := 131) rfl rfl
set_option maxRecDepth 20000 in
theorem ki_X_add : Cond.instanceMethod yX_add ∈ mw_tb := mw_in (i := 133) rfl rfl
set_option maxRecDepth 20000 in
theorem kl_X_125 : Cond.methodLink RX 125 yX_refusalOfNew ∈ mw_tb := mw_in (i := 135) rfl rfl
set_option maxRecDepth 20000 in
theorem ki_X_refusalOfNew : Cond.instanceMethod yX_refusalOfNew ∈ mw_tb := mw_in (i := 137) rfl rfl
set_option maxRecDepth 20000 in
theorem kl_X_57 : Cond.methodLink RX 57 yX_isName ∈ mw_tb := mw_in (i := 139) rfl rfl
set_option maxRecDepth 20000 in
theorem ki_X_isName : Cond.static yX_isName ∈ mw_tb := mw_in (i := 140) rfl rfl
set_option maxRecDepth 20000 in
theorem kl_X_128 : Cond.methodLink RX 128 yX_isRights ∈ mw_tb := mw_in (i := 142) rfl rfl
set_option maxRecDepth 20000 in
theorem ki_X_isRights : Cond.static yX_isRights ∈ mw_tb := mw_in (i := 143) rfl rfl
set_option maxRecDepth 20000 in
theorem kl_X_131 : Cond.methodLink RX 131 yC_own ∈ mw_tb := mw_in (i := 145) rfl rfl
set_option maxRecDepth 20000 in
theorem ki_C_own : Cond.instanceMethod yC_own ∈ mw_tb := mw_in (i := 146) rfl rfl
set_option maxRecDepth 20000 in
theorem ks_C_own : Cond.selects RC yC_own yC_own ∈ mw_tb := mw_in (i := 147) rfl rfl
set_option maxRecDepth 20000 in
theorem kl_X_135 : Cond.methodLink RX 135 yX_isForbiddenFromAbove ∈ mw_tb := mw_in (i := 149) rfl rfl
set_option maxRecDepth 20000 in
theorem ki_X_isForbiddenFromAbove : Cond.instanceMethod yX_isForbiddenFromAbove ∈ mw_tb := mw_in (i := 151) rfl rfl
set_option maxRecDepth 20000 in
theorem kl_X_139 : Cond.methodLink RX 139 yC_ownObjectMethod ∈ mw_tb := mw_in (i := 153) rfl rfl
set_option maxRecDepth 20000 in
theorem ki_C_ownObjectMethod : Cond.instanceMethod yC_ownObjectMethod ∈ mw_tb := mw_in (i := 154) rfl rfl
set_option maxRecDepth 20000 in
theorem ks_C_ownObjectMethod : Cond.selects RC yC_ownObjectMethod yC_ownObjectMethod ∈ mw_tb := mw_in (i := 155) rfl rfl
set_option maxRecDepth 20000 in
theorem kl_C_40 : Cond.methodLink RC 40 yC_own ∈ mw_tb := mw_in (i := 157) rfl rfl
set_option maxRecDepth 20000 in
theorem kl_X_65 : Cond.methodLink RX 65 yN_isReachedBy ∈ mw_tb := mw_in (i := 158) rfl rfl
set_option maxRecDepth 20000 in
theorem ki_N_isReachedBy : Cond.instanceMethod yN_isReachedBy ∈ mw_tb := mw_in (i := 159) rfl rfl
set_option maxRecDepth 20000 in
theorem ks_N_isReachedBy : Cond.selects RN yN_isReachedBy yN_isReachedBy ∈ mw_tb := mw_in (i := 160) rfl rfl
set_option maxRecDepth 20000 in
theorem kl_N_47 : Cond.methodLink RN 47 yC_isBelow ∈ mw_tb := mw_in (i := 162) rfl rfl
set_option maxRecDepth 20000 in
theorem kl_X_97 : Cond.methodLink RX 97 yX_overridesMethod ∈ mw_tb := mw_in (i := 163) rfl rfl
set_option maxRecDepth 20000 in
theorem ki_X_overridesMethod : Cond.instanceMethod yX_overridesMethod ∈ mw_tb := mw_in (i := 165) rfl rfl
set_option maxRecDepth 20000 in
theorem kl_X_146 : Cond.methodLink RX 146 yX_isOverriddenByLine ∈ mw_tb := mw_in (i := 167) rfl rfl
set_option maxRecDepth 20000 in
theorem ki_X_isOverriddenByLine : Cond.instanceMethod yX_isOverriddenByLine ∈ mw_tb := mw_in (i := 169) rfl rfl
set_option maxRecDepth 20000 in
theorem kl_L_28 : Cond.methodLink RL 28 yX_method ∈ mw_tb := mw_in (i := 171) rfl rfl
set_option maxRecDepth 20000 in
theorem ki_X_method : Cond.instanceMethod yX_method ∈ mw_tb := mw_in (i := 172) rfl rfl
set_option maxRecDepth 20000 in
theorem ks_X_method : Cond.selects RX yX_method yX_method ∈ mw_tb := mw_in (i := 173) rfl rfl
set_option maxRecDepth 20000 in
theorem kl_L_33 : Cond.methodLink RL 33 yX_maker ∈ mw_tb := mw_in (i := 175) rfl rfl
set_option maxRecDepth 20000 in
theorem ki_X_maker : Cond.instanceMethod yX_maker ∈ mw_tb := mw_in (i := 176) rfl rfl
set_option maxRecDepth 20000 in
theorem ks_X_maker : Cond.selects RX yX_maker yX_maker ∈ mw_tb := mw_in (i := 177) rfl rfl
set_option maxRecDepth 20000 in
theorem kl_L_38 : Cond.methodLink RL 38 yX_find ∈ mw_tb := mw_in (i := 179) rfl rfl
set_option maxRecDepth 20000 in
theorem ki_X_find : Cond.instanceMethod yX_find ∈ mw_tb := mw_in (i := 180) rfl rfl
set_option maxRecDepth 20000 in
theorem ks_X_find : Cond.selects RX yX_find yX_find ∈ mw_tb := mw_in (i := 181) rfl rfl
set_option maxRecDepth 20000 in
theorem kl_X_61 : Cond.methodLink RX 61 yX_firstAsTold ∈ mw_tb := mw_in (i := 183) rfl rfl
set_option maxRecDepth 20000 in
theorem ki_X_firstAsTold : Cond.static yX_firstAsTold ∈ mw_tb := mw_in (i := 184) rfl rfl
set_option maxRecDepth 20000 in
theorem kl_L_43 : Cond.methodLink RL 43 yX_refused ∈ mw_tb := mw_in (i := 186) rfl rfl
set_option maxRecDepth 20000 in
theorem ki_X_refused : Cond.instanceMethod yX_refused ∈ mw_tb := mw_in (i := 187) rfl rfl
set_option maxRecDepth 20000 in
theorem ks_X_refused : Cond.selects RX yX_refused yX_refused ∈ mw_tb := mw_in (i := 188) rfl rfl
set_option maxRecDepth 20000 in
theorem kl_L_48 : Cond.methodLink RL 48 yX_reaches ∈ mw_tb := mw_in (i := 190) rfl rfl
set_option maxRecDepth 20000 in
theorem ki_X_reaches : Cond.instanceMethod yX_reaches ∈ mw_tb := mw_in (i := 191) rfl rfl
set_option maxRecDepth 20000 in
theorem ks_X_reaches : Cond.selects RX yX_reaches yX_reaches ∈ mw_tb := mw_in (i := 192) rfl rfl
set_option maxRecDepth 20000 in
theorem kl_X_79 : Cond.methodLink RX 79 yX_memberAt ∈ mw_tb := mw_in (i := 194) rfl rfl
set_option maxRecDepth 20000 in
theorem ki_X_memberAt : Cond.instanceMethod yX_memberAt ∈ mw_tb := mw_in (i := 196) rfl rfl
set_option maxRecDepth 20000 in
theorem kl_L_52 : Cond.methodLink RL 52 yX_called ∈ mw_tb := mw_in (i := 198) rfl rfl
set_option maxRecDepth 20000 in
theorem ki_X_called : Cond.instanceMethod yX_called ∈ mw_tb := mw_in (i := 199) rfl rfl
set_option maxRecDepth 20000 in
theorem ks_X_called : Cond.selects RX yX_called yX_called ∈ mw_tb := mw_in (i := 200) rfl rfl
set_option maxRecDepth 20000 in
theorem kl_X_83 : Cond.methodLink RX 83 yN_isObjectMethod ∈ mw_tb := mw_in (i := 202) rfl rfl
set_option maxRecDepth 20000 in
theorem ki_N_isObjectMethod : Cond.instanceMethod yN_isObjectMethod ∈ mw_tb := mw_in (i := 203) rfl rfl
set_option maxRecDepth 20000 in
theorem ks_N_isObjectMethod : Cond.selects RN yN_isObjectMethod yN_isObjectMethod ∈ mw_tb := mw_in (i := 204) rfl rfl
set_option maxRecDepth 20000 in
theorem kl_X_87 : Cond.methodLink RX 87 yX_calledMethod ∈ mw_tb := mw_in (i := 206) rfl rfl
set_option maxRecDepth 20000 in
theorem ki_X_calledMethod : Cond.instanceMethod yX_calledMethod ∈ mw_tb := mw_in (i := 208) rfl rfl
set_option maxRecDepth 20000 in
theorem kl_L_56 : Cond.methodLink RL 56 yX_overrides ∈ mw_tb := mw_in (i := 210) rfl rfl
set_option maxRecDepth 20000 in
theorem ki_X_overrides : Cond.instanceMethod yX_overrides ∈ mw_tb := mw_in (i := 211) rfl rfl
set_option maxRecDepth 20000 in
theorem ks_X_overrides : Cond.selects RX yX_overrides yX_overrides ∈ mw_tb := mw_in (i := 212) rfl rfl
set_option maxRecDepth 20000 in
theorem kl_L_60 : Cond.methodLink RL 60 yX_member ∈ mw_tb := mw_in (i := 214) rfl rfl
set_option maxRecDepth 20000 in
theorem ki_X_member : Cond.instanceMethod yX_member ∈ mw_tb := mw_in (i := 215) rfl rfl
set_option maxRecDepth 20000 in
theorem ks_X_member : Cond.selects RX yX_member yX_member ∈ mw_tb := mw_in (i := 216) rfl rfl
set_option maxRecDepth 20000 in
theorem kl_L_64 : Cond.methodLink RL 64 yX_seen ∈ mw_tb := mw_in (i := 218) rfl rfl
set_option maxRecDepth 20000 in
theorem ki_X_seen : Cond.instanceMethod yX_seen ∈ mw_tb := mw_in (i := 219) rfl rfl
set_option maxRecDepth 20000 in
theorem ks_X_seen : Cond.selects RX yX_seen yX_seen ∈ mw_tb := mw_in (i := 220) rfl rfl
set_option maxRecDepth 20000 in
theorem kl_X_115 : Cond.methodLink RX 115 yX_isHidden ∈ mw_tb := mw_in (i := 222) rfl rfl
set_option maxRecDepth 20000 in
theorem ki_X_isHidden : Cond.instanceMethod yX_isHidden ∈ mw_tb := mw_in (i := 224) rfl rfl
set_option maxRecDepth 20000 in
theorem kc_L_10 : Cond.classLink RL 10 RY ∈ mw_tb := mw_in (i := 226) rfl rfl
set_option maxRecDepth 20000 in
theorem kj_Y : Cond.instantiable RY 15 ∈ mw_tb := mw_in (i := 227) rfl rfl
set_option maxRecDepth 20000 in
theorem kl_L_12 : Cond.methodLink RL 12 yY_init ∈ mw_tb := mw_in (i := 228) rfl rfl
set_option maxRecDepth 20000 in
theorem ki_Y_init : Cond.instanceMethod yY_init ∈ mw_tb := mw_in (i := 229) rfl rfl
set_option maxRecDepth 20000 in
theorem kl_Y_1 : Cond.methodLink RY 1 objectInit ∈ mw_tb := mw_in (i := 231) rfl rfl
set_option maxRecDepth 20000 in
theorem kf_Y_7 : Cond.fieldLink RY 7 RY "parent" "[I" ∈ mw_tb := mw_in (i := 232) rfl rfl
set_option maxRecDepth 20000 in
theorem kf_Y_13 : Cond.fieldLink RY 13 RY "pack" "[I" ∈ mw_tb := mw_in (i := 233) rfl rfl
set_option maxRecDepth 20000 in
theorem kf_Y_44 : Cond.fieldLink RY 44 RY "classes" "I" ∈ mw_tb := mw_in (i := 234) rfl rfl
set_option maxRecDepth 20000 in
theorem kf_Y_16 : Cond.fieldLink RY 16 RY "memberClass" "[I" ∈ mw_tb := mw_in (i := 235) rfl rfl
set_option maxRecDepth 20000 in
theorem kf_Y_19 : Cond.fieldLink RY 19 RY "memberName" "[I" ∈ mw_tb := mw_in (i := 236) rfl rfl
set_option maxRecDepth 20000 in
theorem kf_Y_22 : Cond.fieldLink RY 22 RY "rights" "[I" ∈ mw_tb := mw_in (i := 237) rfl rfl
set_option maxRecDepth 20000 in
theorem kf_Y_25 : Cond.fieldLink RY 25 RY "sort" "[I" ∈ mw_tb := mw_in (i := 238) rfl rfl
set_option maxRecDepth 20000 in
theorem kf_Y_28 : Cond.fieldLink RY 28 RY "type" "[I" ∈ mw_tb := mw_in (i := 239) rfl rfl
set_option maxRecDepth 20000 in
theorem kf_Y_31 : Cond.fieldLink RY 31 RY "fixed" "[Z" ∈ mw_tb := mw_in (i := 240) rfl rfl
set_option maxRecDepth 20000 in
theorem kf_Y_35 : Cond.fieldLink RY 35 RY "last" "[Z" ∈ mw_tb := mw_in (i := 241) rfl rfl
set_option maxRecDepth 20000 in
theorem kf_Y_48 : Cond.fieldLink RY 48 RY "members" "I" ∈ mw_tb := mw_in (i := 242) rfl rfl
set_option maxRecDepth 20000 in
theorem kf_Y_51 : Cond.fieldLink RY 51 RY "refused" "I" ∈ mw_tb := mw_in (i := 243) rfl rfl
set_option maxRecDepth 20000 in
theorem kf_Y_38 : Cond.fieldLink RY 38 RY "chain" "[I" ∈ mw_tb := mw_in (i := 244) rfl rfl
set_option maxRecDepth 20000 in
theorem kf_Y_91 : Cond.fieldLink RY 91 RY "links" "I" ∈ mw_tb := mw_in (i := 245) rfl rfl
set_option maxRecDepth 20000 in
theorem kf_Y_41 : Cond.fieldLink RY 41 RY "over" "[Z" ∈ mw_tb := mw_in (i := 246) rfl rfl
set_option maxRecDepth 20000 in
theorem ka_boolean : Cond.arrayClass .boolean ∈ mw_tb := mw_in (i := 278) rfl rfl
set_option maxRecDepth 20000 in
theorem kl_L_17 : Cond.methodLink RL 17 yY_newClass ∈ mw_tb := mw_in (i := 279) rfl rfl
set_option maxRecDepth 20000 in
theorem ki_Y_newClass : Cond.instanceMethod yY_newClass ∈ mw_tb := mw_in (i := 280) rfl rfl
set_option maxRecDepth 20000 in
theorem ks_Y_newClass : Cond.selects RY yY_newClass yY_newClass ∈ mw_tb := mw_in (i := 281) rfl rfl
set_option maxRecDepth 20000 in
theorem kl_Y_54 : Cond.methodLink RY 54 yY_isClass ∈ mw_tb := mw_in (i := 283) rfl rfl
set_option maxRecDepth 20000 in
theorem ki_Y_isClass : Cond.instanceMethod yY_isClass ∈ mw_tb := mw_in (i := 285) rfl rfl
set_option maxRecDepth 20000 in
theorem kl_L_22 : Cond.methodLink RL 22 yY_below ∈ mw_tb := mw_in (i := 287) rfl rfl
set_option maxRecDepth 20000 in
theorem ki_Y_below : Cond.instanceMethod yY_below ∈ mw_tb := mw_in (i := 288) rfl rfl
set_option maxRecDepth 20000 in
theorem ks_Y_below : Cond.selects RY yY_below yY_below ∈ mw_tb := mw_in (i := 289) rfl rfl
set_option maxRecDepth 20000 in
theorem kl_Y_58 : Cond.methodLink RY 58 yY_isBelow ∈ mw_tb := mw_in (i := 291) rfl rfl
set_option maxRecDepth 20000 in
theorem ki_Y_isBelow : Cond.instanceMethod yY_isBelow ∈ mw_tb := mw_in (i := 293) rfl rfl
set_option maxRecDepth 20000 in
theorem kl_L_27 : Cond.methodLink RL 27 yY_field ∈ mw_tb := mw_in (i := 295) rfl rfl
set_option maxRecDepth 20000 in
theorem ki_Y_field : Cond.instanceMethod yY_field ∈ mw_tb := mw_in (i := 296) rfl rfl
set_option maxRecDepth 20000 in
theorem ks_Y_field : Cond.selects RY yY_field yY_field ∈ mw_tb := mw_in (i := 297) rfl rfl
set_option maxRecDepth 20000 in
theorem kl_Y_62 : Cond.methodLink RY 62 yY_refuse ∈ mw_tb := mw_in (i := 299) rfl rfl
set_option maxRecDepth 20000 in
theorem ki_Y_refuse : Cond.instanceMethod yY_refuse ∈ mw_tb := mw_in (i := 301) rfl rfl
set_option maxRecDepth 20000 in
theorem kl_Y_66 : Cond.methodLink RY 66 yY_outside ∈ mw_tb := mw_in (i := 303) rfl rfl
set_option maxRecDepth 20000 in
theorem ki_Y_outside : Cond.static yY_outside ∈ mw_tb := mw_in (i := 304) rfl rfl
set_option maxRecDepth 20000 in
theorem kl_Y_69 : Cond.methodLink RY 69 yY_tell ∈ mw_tb := mw_in (i := 306) rfl rfl
set_option maxRecDepth 20000 in
theorem ki_Y_tell : Cond.instanceMethod yY_tell ∈ mw_tb := mw_in (i := 308) rfl rfl
set_option maxRecDepth 20000 in
theorem kl_Y_73 : Cond.methodLink RY 73 yY_told ∈ mw_tb := mw_in (i := 310) rfl rfl
set_option maxRecDepth 20000 in
theorem ki_Y_told : Cond.instanceMethod yY_told ∈ mw_tb := mw_in (i := 312) rfl rfl
set_option maxRecDepth 20000 in
theorem kl_L_32 : Cond.methodLink RL 32 yY_method ∈ mw_tb := mw_in (i := 314) rfl rfl
set_option maxRecDepth 20000 in
theorem ki_Y_method : Cond.instanceMethod yY_method ∈ mw_tb := mw_in (i := 315) rfl rfl
set_option maxRecDepth 20000 in
theorem ks_Y_method : Cond.selects RY yY_method yY_method ∈ mw_tb := mw_in (i := 316) rfl rfl
set_option maxRecDepth 20000 in
theorem kl_Y_80 : Cond.methodLink RY 80 yY_ownIn ∈ mw_tb := mw_in (i := 318) rfl rfl
set_option maxRecDepth 20000 in
theorem ki_Y_ownIn : Cond.instanceMethod yY_ownIn ∈ mw_tb := mw_in (i := 320) rfl rfl
set_option maxRecDepth 20000 in
theorem kl_Y_77 : Cond.methodLink RY 77 yY_isOwn ∈ mw_tb := mw_in (i := 322) rfl rfl
set_option maxRecDepth 20000 in
theorem ki_Y_isOwn : Cond.instanceMethod yY_isOwn ∈ mw_tb := mw_in (i := 324) rfl rfl
set_option maxRecDepth 20000 in
theorem kl_Y_84 : Cond.methodLink RY 84 yY_doesReach ∈ mw_tb := mw_in (i := 326) rfl rfl
set_option maxRecDepth 20000 in
theorem ki_Y_doesReach : Cond.instanceMethod yY_doesReach ∈ mw_tb := mw_in (i := 328) rfl rfl
set_option maxRecDepth 20000 in
theorem kl_Y_87 : Cond.methodLink RY 87 yY_goesAgainst ∈ mw_tb := mw_in (i := 330) rfl rfl
set_option maxRecDepth 20000 in
theorem ki_Y_goesAgainst : Cond.instanceMethod yY_goesAgainst ∈ mw_tb := mw_in (i := 332) rfl rfl
set_option maxRecDepth 20000 in
theorem kl_Y_94 : Cond.methodLink RY 94 yY_gather ∈ mw_tb := mw_in (i := 334) rfl rfl
set_option maxRecDepth 20000 in
theorem ki_Y_gather : Cond.instanceMethod yY_gather ∈ mw_tb := mw_in (i := 336) rfl rfl
set_option maxRecDepth 20000 in
theorem kl_Y_98 : Cond.methodLink RY 98 yY_relate ∈ mw_tb := mw_in (i := 338) rfl rfl
set_option maxRecDepth 20000 in
theorem ki_Y_relate : Cond.instanceMethod yY_relate ∈ mw_tb := mw_in (i := 340) rfl rfl
set_option maxRecDepth 20000 in
theorem kl_L_37 : Cond.methodLink RL 37 yY_maker ∈ mw_tb := mw_in (i := 342) rfl rfl
set_option maxRecDepth 20000 in
theorem ki_Y_maker : Cond.instanceMethod yY_maker ∈ mw_tb := mw_in (i := 343) rfl rfl
set_option maxRecDepth 20000 in
theorem ks_Y_maker : Cond.selects RY yY_maker yY_maker ∈ mw_tb := mw_in (i := 344) rfl rfl
set_option maxRecDepth 20000 in
theorem kl_L_42 : Cond.methodLink RL 42 yY_find ∈ mw_tb := mw_in (i := 346) rfl rfl
set_option maxRecDepth 20000 in
theorem ki_Y_find : Cond.instanceMethod yY_find ∈ mw_tb := mw_in (i := 347) rfl rfl
set_option maxRecDepth 20000 in
theorem ks_Y_find : Cond.selects RY yY_find yY_find ∈ mw_tb := mw_in (i := 348) rfl rfl
set_option maxRecDepth 20000 in
theorem kl_Y_105 : Cond.methodLink RY 105 yY_sought ∈ mw_tb := mw_in (i := 350) rfl rfl
set_option maxRecDepth 20000 in
theorem ki_Y_sought : Cond.instanceMethod yY_sought ∈ mw_tb := mw_in (i := 352) rfl rfl
set_option maxRecDepth 20000 in
theorem kl_Y_102 : Cond.methodLink RY 102 yY_isSought ∈ mw_tb := mw_in (i := 354) rfl rfl
set_option maxRecDepth 20000 in
theorem ki_Y_isSought : Cond.instanceMethod yY_isSought ∈ mw_tb := mw_in (i := 356) rfl rfl
set_option maxRecDepth 20000 in
theorem kl_L_47 : Cond.methodLink RL 47 yY_refused ∈ mw_tb := mw_in (i := 358) rfl rfl
set_option maxRecDepth 20000 in
theorem ki_Y_refused : Cond.instanceMethod yY_refused ∈ mw_tb := mw_in (i := 359) rfl rfl
set_option maxRecDepth 20000 in
theorem ks_Y_refused : Cond.selects RY yY_refused yY_refused ∈ mw_tb := mw_in (i := 360) rfl rfl
set_option maxRecDepth 20000 in
theorem kl_L_51 : Cond.methodLink RL 51 yY_reaches ∈ mw_tb := mw_in (i := 362) rfl rfl
set_option maxRecDepth 20000 in
theorem ki_Y_reaches : Cond.instanceMethod yY_reaches ∈ mw_tb := mw_in (i := 363) rfl rfl
set_option maxRecDepth 20000 in
theorem ks_Y_reaches : Cond.selects RY yY_reaches yY_reaches ∈ mw_tb := mw_in (i := 364) rfl rfl
set_option maxRecDepth 20000 in
theorem kl_Y_109 : Cond.methodLink RY 109 yY_isMember ∈ mw_tb := mw_in (i := 366) rfl rfl
set_option maxRecDepth 20000 in
theorem ki_Y_isMember : Cond.instanceMethod yY_isMember ∈ mw_tb := mw_in (i := 368) rfl rfl
set_option maxRecDepth 20000 in
theorem kl_L_55 : Cond.methodLink RL 55 yY_called ∈ mw_tb := mw_in (i := 370) rfl rfl
set_option maxRecDepth 20000 in
theorem ki_Y_called : Cond.instanceMethod yY_called ∈ mw_tb := mw_in (i := 371) rfl rfl
set_option maxRecDepth 20000 in
theorem ks_Y_called : Cond.selects RY yY_called yY_called ∈ mw_tb := mw_in (i := 372) rfl rfl
set_option maxRecDepth 20000 in
theorem kl_Y_112 : Cond.methodLink RY 112 yY_linkOf ∈ mw_tb := mw_in (i := 374) rfl rfl
set_option maxRecDepth 20000 in
theorem ki_Y_linkOf : Cond.instanceMethod yY_linkOf ∈ mw_tb := mw_in (i := 376) rfl rfl
set_option maxRecDepth 20000 in
theorem kl_L_59 : Cond.methodLink RL 59 yY_overrides ∈ mw_tb := mw_in (i := 378) rfl rfl
set_option maxRecDepth 20000 in
theorem ki_Y_overrides : Cond.instanceMethod yY_overrides ∈ mw_tb := mw_in (i := 379) rfl rfl
set_option maxRecDepth 20000 in
theorem ks_Y_overrides : Cond.selects RY yY_overrides yY_overrides ∈ mw_tb := mw_in (i := 380) rfl rfl
set_option maxRecDepth 20000 in
theorem kl_L_63 : Cond.methodLink RL 63 yY_member ∈ mw_tb := mw_in (i := 382) rfl rfl
set_option maxRecDepth 20000 in
theorem ki_Y_member : Cond.instanceMethod yY_member ∈ mw_tb := mw_in (i := 383) rfl rfl
set_option maxRecDepth 20000 in
theorem ks_Y_member : Cond.selects RY yY_member yY_member ∈ mw_tb := mw_in (i := 384) rfl rfl
set_option maxRecDepth 20000 in
theorem kl_L_67 : Cond.methodLink RL 67 yY_seen ∈ mw_tb := mw_in (i := 386) rfl rfl
set_option maxRecDepth 20000 in
theorem ki_Y_seen : Cond.instanceMethod yY_seen ∈ mw_tb := mw_in (i := 387) rfl rfl
set_option maxRecDepth 20000 in
theorem ks_Y_seen : Cond.selects RY yY_seen yY_seen ∈ mw_tb := mw_in (i := 388) rfl rfl
set_option maxRecDepth 20000 in
theorem kl_Y_115 : Cond.methodLink RY 115 yY_isHidden ∈ mw_tb := mw_in (i := 390) rfl rfl
set_option maxRecDepth 20000 in
theorem ki_Y_isHidden : Cond.instanceMethod yY_isHidden ∈ mw_tb := mw_in (i := 392) rfl rfl
set_option maxRecDepth 20000 in
theorem ks_X_classAt : Cond.selects RX yX_classAt yX_classAt ∈ mw_tb := mw_ins (i := 0) rfl rfl
set_option maxRecDepth 20000 in
theorem ks_X_refuse : Cond.selects RX yX_refuse yX_refuse ∈ mw_tb := mw_ins (i := 1) rfl rfl
set_option maxRecDepth 20000 in
theorem ks_X_add : Cond.selects RX yX_add yX_add ∈ mw_tb := mw_ins (i := 2) rfl rfl
set_option maxRecDepth 20000 in
theorem ks_X_refusalOfNew : Cond.selects RX yX_refusalOfNew yX_refusalOfNew ∈ mw_tb := mw_ins (i := 3) rfl rfl
set_option maxRecDepth 20000 in
theorem ks_X_isForbiddenFromAbove : Cond.selects RX yX_isForbiddenFromAbove yX_isForbiddenFromAbove ∈ mw_tb := mw_ins (i := 4) rfl rfl
set_option maxRecDepth 20000 in
theorem ks_X_overridesMethod : Cond.selects RX yX_overridesMethod yX_overridesMethod ∈ mw_tb := mw_ins (i := 5) rfl rfl
set_option maxRecDepth 20000 in
theorem ks_X_isOverriddenByLine : Cond.selects RX yX_isOverriddenByLine yX_isOverriddenByLine ∈ mw_tb := mw_ins (i := 6) rfl rfl
set_option maxRecDepth 20000 in
theorem ks_X_memberAt : Cond.selects RX yX_memberAt yX_memberAt ∈ mw_tb := mw_ins (i := 7) rfl rfl
set_option maxRecDepth 20000 in
theorem ks_X_calledMethod : Cond.selects RX yX_calledMethod yX_calledMethod ∈ mw_tb := mw_ins (i := 8) rfl rfl
set_option maxRecDepth 20000 in
theorem ks_X_isHidden : Cond.selects RX yX_isHidden yX_isHidden ∈ mw_tb := mw_ins (i := 9) rfl rfl
set_option maxRecDepth 20000 in
theorem ks_Y_isClass : Cond.selects RY yY_isClass yY_isClass ∈ mw_tb := mw_ins (i := 10) rfl rfl
set_option maxRecDepth 20000 in
theorem ks_Y_isBelow : Cond.selects RY yY_isBelow yY_isBelow ∈ mw_tb := mw_ins (i := 11) rfl rfl
set_option maxRecDepth 20000 in
theorem ks_Y_refuse : Cond.selects RY yY_refuse yY_refuse ∈ mw_tb := mw_ins (i := 12) rfl rfl
set_option maxRecDepth 20000 in
theorem ks_Y_tell : Cond.selects RY yY_tell yY_tell ∈ mw_tb := mw_ins (i := 13) rfl rfl
set_option maxRecDepth 20000 in
theorem ks_Y_told : Cond.selects RY yY_told yY_told ∈ mw_tb := mw_ins (i := 14) rfl rfl
set_option maxRecDepth 20000 in
theorem ks_Y_ownIn : Cond.selects RY yY_ownIn yY_ownIn ∈ mw_tb := mw_ins (i := 15) rfl rfl
set_option maxRecDepth 20000 in
theorem ks_Y_isOwn : Cond.selects RY yY_isOwn yY_isOwn ∈ mw_tb := mw_ins (i := 16) rfl rfl
set_option maxRecDepth 20000 in
theorem ks_Y_doesReach : Cond.selects RY yY_doesReach yY_doesReach ∈ mw_tb := mw_ins (i := 17) rfl rfl
set_option maxRecDepth 20000 in
theorem ks_Y_goesAgainst : Cond.selects RY yY_goesAgainst yY_goesAgainst ∈ mw_tb := mw_ins (i := 18) rfl rfl
set_option maxRecDepth 20000 in
theorem ks_Y_gather : Cond.selects RY yY_gather yY_gather ∈ mw_tb := mw_ins (i := 19) rfl rfl
set_option maxRecDepth 20000 in
theorem ks_Y_relate : Cond.selects RY yY_relate yY_relate ∈ mw_tb := mw_ins (i := 20) rfl rfl
set_option maxRecDepth 20000 in
theorem ks_Y_sought : Cond.selects RY yY_sought yY_sought ∈ mw_tb := mw_ins (i := 21) rfl rfl
set_option maxRecDepth 20000 in
theorem ks_Y_isSought : Cond.selects RY yY_isSought yY_isSought ∈ mw_tb := mw_ins (i := 22) rfl rfl
set_option maxRecDepth 20000 in
theorem ks_Y_isMember : Cond.selects RY yY_isMember yY_isMember ∈ mw_tb := mw_ins (i := 23) rfl rfl
set_option maxRecDepth 20000 in
theorem ks_Y_linkOf : Cond.selects RY yY_linkOf yY_linkOf ∈ mw_tb := mw_ins (i := 24) rfl rfl
set_option maxRecDepth 20000 in
theorem ks_Y_isHidden : Cond.selects RY yY_isHidden yY_isHidden ∈ mw_tb := mw_ins (i := 25) rfl rfl
def mw_B (y : MethodName) (bytes : ByteArray) (maxL : Nat) (ret : Option FieldType) (n : Nat) : Prop := Cond.code y bytes maxL ret ∈ mw_tb ∧ Cond.initialized y.cls ∈ mw_tb ∧ (y.cls ≠ "java/lang/invoke/MethodHandle" ∧ y.cls ≠ "java/lang/invoke/VarHandle" ∧ (parseMethodDescriptor y.desc).map (fun d => d.parameters.length) = some n)
set_option maxRecDepth 20000 in
theorem kb_X_init : mw_B yX_init bX_init 1 none 0 := ⟨mw_in (i := 9) rfl rfl, kn_X, by decide +kernel⟩
set_option maxRecDepth 20000 in
theorem kb_X_newClass : mw_B yX_newClass bX_newClass 5 (some .int) 2 := ⟨mw_in (i := 40) rfl rfl, kn_X, by decide +kernel⟩
set_option maxRecDepth 20000 in
theorem kb_X_classAt : mw_B yX_classAt bX_classAt 2 (some (.object "MemberFinder$ClassInfo")) 1 := ⟨mw_in (i := 44) rfl rfl, kn_X, by decide +kernel⟩
set_option maxRecDepth 20000 in
theorem kb_C_init : mw_B yC_init bC_init 4 none 3 := ⟨mw_in (i := 48) rfl rfl, kn_C, by decide +kernel⟩
set_option maxRecDepth 20000 in
theorem kb_X_below : mw_B yX_below bX_below 5 (some .boolean) 2 := ⟨mw_in (i := 71) rfl rfl, kn_X, by decide +kernel⟩
set_option maxRecDepth 20000 in
theorem kb_C_isBelow : mw_B yC_isBelow bC_isBelow 3 (some .boolean) 1 := ⟨mw_in (i := 75) rfl rfl, kn_C, by decide +kernel⟩
set_option maxRecDepth 20000 in
theorem kb_X_field : mw_B yX_field bX_field 7 (some .int) 5 := ⟨mw_in (i := 79) rfl rfl, kn_X, by decide +kernel⟩
set_option maxRecDepth 20000 in
theorem kb_X_refuse : mw_B yX_refuse bX_refuse 2 (some .int) 1 := ⟨mw_in (i := 83) rfl rfl, kn_X, by decide +kernel⟩
set_option maxRecDepth 20000 in
theorem kb_N_init : mw_B yN_init bN_init 8 none 7 := ⟨mw_in (i := 87) rfl rfl, kn_N, by decide +kernel⟩
set_option maxRecDepth 20000 in
theorem kb_X_add : mw_B yX_add bX_add 3 (some .int) 2 := ⟨mw_in (i := 134) rfl rfl, kn_X, by decide +kernel⟩
set_option maxRecDepth 20000 in
theorem kb_X_refusalOfNew : mw_B yX_refusalOfNew bX_refusalOfNew 3 (some .int) 2 := ⟨mw_in (i := 138) rfl rfl, kn_X, by decide +kernel⟩
set_option maxRecDepth 20000 in
theorem kb_X_isName : mw_B yX_isName bX_isName 1 (some .boolean) 1 := ⟨mw_in (i := 141) rfl rfl, kn_X, by decide +kernel⟩
set_option maxRecDepth 20000 in
theorem kb_X_isRights : mw_B yX_isRights bX_isRights 1 (some .boolean) 1 := ⟨mw_in (i := 144) rfl rfl, kn_X, by decide +kernel⟩
set_option maxRecDepth 20000 in
theorem kb_C_own : mw_B yC_own bC_own 5 (some (.object "MemberFinder$MemberInfo")) 3 := ⟨mw_in (i := 148) rfl rfl, kn_C, by decide +kernel⟩
set_option maxRecDepth 20000 in
theorem kb_X_isForbiddenFromAbove : mw_B yX_isForbiddenFromAbove bX_isForbiddenFromAbove 6 (some .boolean) 2 := ⟨mw_in (i := 152) rfl rfl, kn_X, by decide +kernel⟩
set_option maxRecDepth 20000 in
theorem kb_C_ownObjectMethod : mw_B yC_ownObjectMethod bC_ownObjectMethod 4 (some (.object "MemberFinder$MemberInfo")) 2 := ⟨mw_in (i := 156) rfl rfl, kn_C, by decide +kernel⟩
set_option maxRecDepth 20000 in
theorem kb_N_isReachedBy : mw_B yN_isReachedBy bN_isReachedBy 2 (some .boolean) 1 := ⟨mw_in (i := 161) rfl rfl, kn_N, by decide +kernel⟩
set_option maxRecDepth 20000 in
theorem kb_X_overridesMethod : mw_B yX_overridesMethod bX_overridesMethod 7 (some .boolean) 2 := ⟨mw_in (i := 166) rfl rfl, kn_X, by decide +kernel⟩
set_option maxRecDepth 20000 in
theorem kb_X_isOverriddenByLine : mw_B yX_isOverriddenByLine bX_isOverriddenByLine 4 (some .boolean) 2 := ⟨mw_in (i := 170) rfl rfl, kn_X, by decide +kernel⟩
set_option maxRecDepth 20000 in
theorem kb_X_method : mw_B yX_method bX_method 8 (some .int) 6 := ⟨mw_in (i := 174) rfl rfl, kn_X, by decide +kernel⟩
set_option maxRecDepth 20000 in
theorem kb_X_maker : mw_B yX_maker bX_maker 5 (some .int) 3 := ⟨mw_in (i := 178) rfl rfl, kn_X, by decide +kernel⟩
set_option maxRecDepth 20000 in
theorem kb_X_find : mw_B yX_find bX_find 9 (some .int) 5 := ⟨mw_in (i := 182) rfl rfl, kn_X, by decide +kernel⟩
set_option maxRecDepth 20000 in
theorem kb_X_firstAsTold : mw_B yX_firstAsTold bX_firstAsTold 6 (some (.object "MemberFinder$MemberInfo")) 4 := ⟨mw_in (i := 185) rfl rfl, kn_X, by decide +kernel⟩
set_option maxRecDepth 20000 in
theorem kb_X_refused : mw_B yX_refused bX_refused 1 (some .int) 0 := ⟨mw_in (i := 189) rfl rfl, kn_X, by decide +kernel⟩
set_option maxRecDepth 20000 in
theorem kb_X_reaches : mw_B yX_reaches bX_reaches 5 (some .boolean) 2 := ⟨mw_in (i := 193) rfl rfl, kn_X, by decide +kernel⟩
set_option maxRecDepth 20000 in
theorem kb_X_memberAt : mw_B yX_memberAt bX_memberAt 2 (some (.object "MemberFinder$MemberInfo")) 1 := ⟨mw_in (i := 197) rfl rfl, kn_X, by decide +kernel⟩
set_option maxRecDepth 20000 in
theorem kb_X_called : mw_B yX_called bX_called 5 (some .int) 2 := ⟨mw_in (i := 201) rfl rfl, kn_X, by decide +kernel⟩
set_option maxRecDepth 20000 in
theorem kb_N_isObjectMethod : mw_B yN_isObjectMethod bN_isObjectMethod 1 (some .boolean) 0 := ⟨mw_in (i := 205) rfl rfl, kn_N, by decide +kernel⟩
set_option maxRecDepth 20000 in
theorem kb_X_calledMethod : mw_B yX_calledMethod bX_calledMethod 5 (some (.object "MemberFinder$MemberInfo")) 2 := ⟨mw_in (i := 209) rfl rfl, kn_X, by decide +kernel⟩
set_option maxRecDepth 20000 in
theorem kb_X_overrides : mw_B yX_overrides bX_overrides 5 (some .boolean) 2 := ⟨mw_in (i := 213) rfl rfl, kn_X, by decide +kernel⟩
set_option maxRecDepth 20000 in
theorem kb_X_member : mw_B yX_member bX_member 4 (some .int) 2 := ⟨mw_in (i := 217) rfl rfl, kn_X, by decide +kernel⟩
set_option maxRecDepth 20000 in
theorem kb_X_seen : mw_B yX_seen bX_seen 8 (some .int) 2 := ⟨mw_in (i := 221) rfl rfl, kn_X, by decide +kernel⟩
set_option maxRecDepth 20000 in
theorem kb_X_isHidden : mw_B yX_isHidden bX_isHidden 3 (some .boolean) 2 := ⟨mw_in (i := 225) rfl rfl, kn_X, by decide +kernel⟩
set_option maxRecDepth 20000 in
theorem kb_Y_init : mw_B yY_init bY_init 1 none 0 := ⟨mw_in (i := 230) rfl rfl, kn_Y, by decide +kernel⟩
set_option maxRecDepth 20000 in
theorem kb_Y_newClass : mw_B yY_newClass bY_newClass 3 (some .int) 2 := ⟨mw_in (i := 282) rfl rfl, kn_Y, by decide +kernel⟩
set_option maxRecDepth 20000 in
theorem kb_Y_isClass : mw_B yY_isClass bY_isClass 2 (some .boolean) 1 := ⟨mw_in (i := 286) rfl rfl, kn_Y, by decide +kernel⟩
set_option maxRecDepth 20000 in
theorem kb_Y_below : mw_B yY_below bY_below 3 (some .boolean) 2 := ⟨mw_in (i := 290) rfl rfl, kn_Y, by decide +kernel⟩
set_option maxRecDepth 20000 in
theorem kb_Y_isBelow : mw_B yY_isBelow bY_isBelow 4 (some .boolean) 2 := ⟨mw_in (i := 294) rfl rfl, kn_Y, by decide +kernel⟩
set_option maxRecDepth 20000 in
theorem kb_Y_field : mw_B yY_field bY_field 7 (some .int) 5 := ⟨mw_in (i := 298) rfl rfl, kn_Y, by decide +kernel⟩
set_option maxRecDepth 20000 in
theorem kb_Y_refuse : mw_B yY_refuse bY_refuse 2 (some .int) 1 := ⟨mw_in (i := 302) rfl rfl, kn_Y, by decide +kernel⟩
set_option maxRecDepth 20000 in
theorem kb_Y_outside : mw_B yY_outside bY_outside 2 (some .boolean) 2 := ⟨mw_in (i := 305) rfl rfl, kn_Y, by decide +kernel⟩
set_option maxRecDepth 20000 in
theorem kb_Y_tell : mw_B yY_tell bY_tell 8 none 7 := ⟨mw_in (i := 309) rfl rfl, kn_Y, by decide +kernel⟩
set_option maxRecDepth 20000 in
theorem kb_Y_told : mw_B yY_told bY_told 1 (some .int) 0 := ⟨mw_in (i := 313) rfl rfl, kn_Y, by decide +kernel⟩
set_option maxRecDepth 20000 in
theorem kb_Y_method : mw_B yY_method bY_method 9 (some .int) 6 := ⟨mw_in (i := 317) rfl rfl, kn_Y, by decide +kernel⟩
set_option maxRecDepth 20000 in
theorem kb_Y_ownIn : mw_B yY_ownIn bY_ownIn 5 (some .int) 3 := ⟨mw_in (i := 321) rfl rfl, kn_Y, by decide +kernel⟩
set_option maxRecDepth 20000 in
theorem kb_Y_isOwn : mw_B yY_isOwn bY_isOwn 2 (some .boolean) 1 := ⟨mw_in (i := 325) rfl rfl, kn_Y, by decide +kernel⟩
set_option maxRecDepth 20000 in
theorem kb_Y_doesReach : mw_B yY_doesReach bY_doesReach 4 (some .boolean) 2 := ⟨mw_in (i := 329) rfl rfl, kn_Y, by decide +kernel⟩
set_option maxRecDepth 20000 in
theorem kb_Y_goesAgainst : mw_B yY_goesAgainst bY_goesAgainst 7 (some .boolean) 4 := ⟨mw_in (i := 333) rfl rfl, kn_Y, by decide +kernel⟩
set_option maxRecDepth 20000 in
theorem kb_Y_gather : mw_B yY_gather bY_gather 6 none 3 := ⟨mw_in (i := 337) rfl rfl, kn_Y, by decide +kernel⟩
set_option maxRecDepth 20000 in
theorem kb_Y_relate : mw_B yY_relate bY_relate 12 none 2 := ⟨mw_in (i := 341) rfl rfl, kn_Y, by decide +kernel⟩
set_option maxRecDepth 20000 in
theorem kb_Y_maker : mw_B yY_maker bY_maker 5 (some .int) 3 := ⟨mw_in (i := 345) rfl rfl, kn_Y, by decide +kernel⟩
set_option maxRecDepth 20000 in
theorem kb_Y_find : mw_B yY_find bY_find 7 (some .int) 5 := ⟨mw_in (i := 349) rfl rfl, kn_Y, by decide +kernel⟩
set_option maxRecDepth 20000 in
theorem kb_Y_sought : mw_B yY_sought bY_sought 7 (some .int) 4 := ⟨mw_in (i := 353) rfl rfl, kn_Y, by decide +kernel⟩
set_option maxRecDepth 20000 in
theorem kb_Y_isSought : mw_B yY_isSought bY_isSought 5 (some .boolean) 4 := ⟨mw_in (i := 357) rfl rfl, kn_Y, by decide +kernel⟩
set_option maxRecDepth 20000 in
theorem kb_Y_refused : mw_B yY_refused bY_refused 1 (some .int) 0 := ⟨mw_in (i := 361) rfl rfl, kn_Y, by decide +kernel⟩
set_option maxRecDepth 20000 in
theorem kb_Y_reaches : mw_B yY_reaches bY_reaches 3 (some .boolean) 2 := ⟨mw_in (i := 365) rfl rfl, kn_Y, by decide +kernel⟩
set_option maxRecDepth 20000 in
theorem kb_Y_isMember : mw_B yY_isMember bY_isMember 2 (some .boolean) 1 := ⟨mw_in (i := 369) rfl rfl, kn_Y, by decide +kernel⟩
set_option maxRecDepth 20000 in
theorem kb_Y_called : mw_B yY_called bY_called 5 (some .int) 2 := ⟨mw_in (i := 373) rfl rfl, kn_Y, by decide +kernel⟩
set_option maxRecDepth 20000 in
theorem kb_Y_linkOf : mw_B yY_linkOf bY_linkOf 3 (some .int) 1 := ⟨mw_in (i := 377) rfl rfl, kn_Y, by decide +kernel⟩
set_option maxRecDepth 20000 in
theorem kb_Y_overrides : mw_B yY_overrides bY_overrides 3 (some .boolean) 2 := ⟨mw_in (i := 381) rfl rfl, kn_Y, by decide +kernel⟩
set_option maxRecDepth 20000 in
theorem kb_Y_member : mw_B yY_member bY_member 3 (some .int) 2 := ⟨mw_in (i := 385) rfl rfl, kn_Y, by decide +kernel⟩
set_option maxRecDepth 20000 in
theorem kb_Y_seen : mw_B yY_seen bY_seen 5 (some .int) 2 := ⟨mw_in (i := 389) rfl rfl, kn_Y, by decide +kernel⟩
set_option maxRecDepth 20000 in
theorem kb_Y_isHidden : mw_B yY_isHidden bY_isHidden 5 (some .boolean) 2 := ⟨mw_in (i := 393) rfl rfl, kn_Y, by decide +kernel⟩
set_option maxRecDepth 20000 in
theorem iC : ∀ w ∈ u_ws RC TC 4, w ∈ mw_tb := by
  intro w hw
  obtain ⟨k, hk, rfl⟩ := List.mem_map.mp hw
  have hk := List.mem_range.mp hk
  skip
  match k, hk with
  | 0, _ => exact mw_in (i := 59) rfl rfl
  | 1, _ => exact mw_in (i := 61) rfl rfl
  | 2, _ => exact mw_in (i := 63) rfl rfl
  | 3, _ => exact mw_in (i := 65) rfl rfl
  | k + 4, hk => exact absurd hk (by omega)
set_option maxRecDepth 20000 in
theorem iN : ∀ w ∈ u_ws RN TN 9, w ∈ mw_tb := by
  intro w hw
  obtain ⟨k, hk, rfl⟩ := List.mem_map.mp hw
  have hk := List.mem_range.mp hk
  skip
  match k, hk with
  | 0, _ => exact mw_in (i := 112) rfl rfl
  | 1, _ => exact mw_in (i := 114) rfl rfl
  | 2, _ => exact mw_in (i := 116) rfl rfl
  | 3, _ => exact mw_in (i := 118) rfl rfl
  | 4, _ => exact mw_in (i := 120) rfl rfl
  | 5, _ => exact mw_in (i := 122) rfl rfl
  | 6, _ => exact mw_in (i := 124) rfl rfl
  | 7, _ => exact mw_in (i := 126) rfl rfl
  | 8, _ => exact mw_in (i := 128) rfl rfl
  | k + 9, hk => exact absurd hk (by omega)
set_option maxRecDepth 20000 in
theorem iX : ∀ w ∈ u_ws RX TX 6, w ∈ mw_tb := by
  intro w hw
  obtain ⟨k, hk, rfl⟩ := List.mem_map.mp hw
  have hk := List.mem_range.mp hk
  skip
  match k, hk with
  | 0, _ => exact mw_in (i := 23) rfl rfl
  | 1, _ => exact mw_in (i := 25) rfl rfl
  | 2, _ => exact mw_in (i := 27) rfl rfl
  | 3, _ => exact mw_in (i := 29) rfl rfl
  | 4, _ => exact mw_in (i := 31) rfl rfl
  | 5, _ => exact mw_in (i := 33) rfl rfl
  | k + 6, hk => exact absurd hk (by omega)
set_option maxRecDepth 20000 in
theorem iY : ∀ w ∈ u_ws RY TY 15, w ∈ mw_tb := by
  intro w hw
  obtain ⟨k, hk, rfl⟩ := List.mem_map.mp hw
  have hk := List.mem_range.mp hk
  skip
  match k, hk with
  | 0, _ => exact mw_in (i := 247) rfl rfl
  | 1, _ => exact mw_in (i := 249) rfl rfl
  | 2, _ => exact mw_in (i := 251) rfl rfl
  | 3, _ => exact mw_in (i := 253) rfl rfl
  | 4, _ => exact mw_in (i := 255) rfl rfl
  | 5, _ => exact mw_in (i := 257) rfl rfl
  | 6, _ => exact mw_in (i := 259) rfl rfl
  | 7, _ => exact mw_in (i := 261) rfl rfl
  | 8, _ => exact mw_in (i := 263) rfl rfl
  | 9, _ => exact mw_in (i := 265) rfl rfl
  | 10, _ => exact mw_in (i := 267) rfl rfl
  | 11, _ => exact mw_in (i := 269) rfl rfl
  | 12, _ => exact mw_in (i := 271) rfl rfl
  | 13, _ => exact mw_in (i := 273) rfl rfl
  | 14, _ => exact mw_in (i := 275) rfl rfl
  | k + 15, hk => exact absurd hk (by omega)
end
section
def mb_i (b : Bool) : Int32 := if b then 1 else 0
theorem mb_0 {b : Bool} : mb_i b = 0 ↔ b = false := by cases b <;> decide
theorem mb_z {b : Bool} (h : mb_i b = 0) : b = false := mb_0.mp h
theorem mb_n {b : Bool} (h : ¬ mb_i b = 0) : b = true := by
  cases b
  · exact absurd rfl h
  · rfl
theorem mb_inj {a b : Bool} : mb_i a = mb_i b ↔ a = b := by cases a <;> cases b <;> decide
def eo_i (r : Option Nat) : Int32 := match r with
  | none => -1
  | some p => nI p
def ix_o (v : Int32) (n : Nat) : Option Nat := if v < 0 then none else if v.toNatClampNeg < n then some v.toNatClampNeg else none
theorem nI_m1 {p : Nat} (h : p < 2 ^ 31) : ¬ nI p = -1 := fun q => by
  have h1 := congrArg Int32.toInt q
  rw [nI_toInt h] at h1
  have h2 : (-1 : Int32).toInt = -1 := by decide
  rw [h2] at h1
  omega
theorem ix_neg {v : Int32} {n : Nat} (h : v < 0) : ix_o v n = none := by
  unfold ix_o
  rw [if_pos h]
theorem ix_nI {i n : Nat} (h : i < n) (hn : n < 2 ^ 31) : ix_o (nI i) n = some i := by
  have h1 : ¬ nI i < 0 := nI_pos (by omega)
  have h2 : (nI i).toNatClampNeg = i := nI_clamp (by omega)
  unfold ix_o
  rw [if_neg h1, h2, if_pos h]
theorem ix_ge {v : Int32} {n : Nat} (hn : n < 2 ^ 31) (h : nI n ≤ v) : ix_o v n = none := by
  by_cases h0 : v < 0
  · exact ix_neg h0
  · obtain ⟨j, hj, rfl⟩ := nI_of h0
    have h1 : n ≤ j := (nI_leI hn hj).mp h
    unfold ix_o
    rw [if_neg h0, nI_clamp hj, if_neg (by omega)]
theorem ix_in {v : Int32} {n : Nat} (hn : n < 2 ^ 31) (h0 : ¬ v < 0) (h : ¬ nI n ≤ v) : ∃ i, i < n ∧ v = nI i ∧ ix_o v n = some i := by
  obtain ⟨j, hj, rfl⟩ := nI_of h0
  have h1 : ¬ n ≤ j := fun q => h ((nI_leI hn hj).mpr q)
  exact ⟨j, by omega, rfl, ix_nI (by omega) hn⟩
theorem ix_some {v : Int32} {n i : Nat} (hn : n < 2 ^ 31) (h : ix_o v n = some i) : i < n ∧ v = nI i := by
  by_cases h0 : v < 0
  · rw [ix_neg h0] at h; cases h
  · by_cases h1 : nI n ≤ v
    · rw [ix_ge hn h1] at h; cases h
    · obtain ⟨j, a, b, d⟩ := ix_in hn h0 h1
      rw [d] at h
      cases h
      exact ⟨a, b⟩
theorem ii_1 (k : Nat) : nI k + Int32.ofInt 1 = nI (k + 1) := nI_1 k
theorem i3_nle {a b : Int32} (h : a < b) : ¬ b ≤ a := by
  rw [Int32.lt_iff_toInt_lt] at h
  rw [Int32.le_iff_toInt_le]
  omega
theorem i3_le {a b : Int32} (h : ¬ a < b) : b ≤ a := by
  rw [Int32.lt_iff_toInt_lt] at h
  rw [Int32.le_iff_toInt_le]
  omega
theorem i3_lt {a b : Int32} (h : ¬ a ≤ b) : b < a := by
  rw [Int32.le_iff_toInt_le] at h
  rw [Int32.lt_iff_toInt_lt]
  omega
theorem i3_nlt {a b : Int32} (h : a ≤ b) : ¬ b < a := by
  rw [Int32.le_iff_toInt_le] at h
  rw [Int32.lt_iff_toInt_lt]
  omega
def fo_g (P : Nat → Bool) : Nat → Option Nat
  | 0 => none
  | n + 1 => if P n then some n else fo_g P n
theorem fo_s (P : Nat → Bool) (n : Nat) : fo_g P (n + 1) = if P n then some n else fo_g P n := rfl
theorem fo_z (P : Nat → Bool) : fo_g P 0 = none := rfl
theorem fo_some {P : Nat → Bool} {n i : Nat} (h : fo_g P n = some i) : i < n ∧ P i = true := by
  induction n with
  | zero => rw [fo_z] at h; cases h
  | succ n ih =>
    rw [fo_s] at h
    by_cases hp : P n = true
    · rw [if_pos hp] at h
      cases h
      exact ⟨Nat.lt_succ_self _, hp⟩
    · rw [if_neg hp] at h
      obtain ⟨a, b⟩ := ih h
      exact ⟨Nat.lt_succ_of_lt a, b⟩
theorem fo_none {P : Nat → Bool} {n : Nat} (h : fo_g P n = none) : ∀ i, i < n → P i = false := by
  induction n with
  | zero => intro i hi; exact absurd hi (Nat.not_lt_zero i)
  | succ n ih =>
    intro i hi
    rw [fo_s] at h
    by_cases hp : P n = true
    · rw [if_pos hp] at h; cases h
    · rw [if_neg hp] at h
      by_cases q : i = n
      · subst q; simpa using hp
      · exact ih h i (by omega)
theorem fo_no {P : Nat → Bool} {n : Nat} (h : ∀ i, i < n → P i = false) : fo_g P n = none := by
  cases e : fo_g P n with
  | none => rfl
  | some j =>
    obtain ⟨a, b⟩ := fo_some e
    rw [h j a] at b
    cases b
theorem fo_is {P : Nat → Bool} {n i : Nat} (hi : i < n) (hp : P i = true) (hu : ∀ j, j < n → P j = true → j = i) : fo_g P n = some i := by
  cases e : fo_g P n with
  | none =>
    have h := fo_none e i hi
    rw [hp] at h
    cases h
  | some j =>
    obtain ⟨a, b⟩ := fo_some e
    rw [hu j a b]
theorem fo_cg {P Q : Nat → Bool} {n : Nat} (h : ∀ i, i < n → P i = Q i) : fo_g P n = fo_g Q n := by
  induction n with
  | zero => rfl
  | succ n ih => rw [fo_s, fo_s, h n (Nat.lt_succ_self n), ih fun i hi => h i (Nat.lt_succ_of_lt hi)]
theorem fo_nx {P Q : Nat → Bool} {n : Nat} : (fo_g P n = none → fo_g (fun i => P i && Q i) n = none) ∧ ∀ j, fo_g P n = some j → fo_g (fun i => P i && Q i) n = if Q j then some j else fo_g (fun i => P i && Q i) j := by
  induction n with
  | zero => exact ⟨fun _ => rfl, fun j h => by rw [fo_z] at h; cases h⟩
  | succ n ih =>
    by_cases hp : P n = true
    · refine ⟨fun h => ?_, fun j h => ?_⟩
      · rw [fo_s, if_pos hp] at h; cases h
      · rw [fo_s, if_pos hp] at h
        cases h
        rw [fo_s, hp, Bool.true_and]
    · have hp' : P n = false := by simpa using hp
      have e : fo_g (fun i => P i && Q i) (n + 1) = fo_g (fun i => P i && Q i) n := by
        rw [fo_s, hp', Bool.false_and]
        rfl
      refine ⟨fun h => ?_, fun j h => ?_⟩
      · rw [fo_s, if_neg hp] at h
        rw [e]; exact ih.1 h
      · rw [fo_s, if_neg hp] at h
        rw [e]; exact ih.2 j h
abbrev sg_T : Type := Nat × (Nat → Option Nat) × (Nat → Int32) × Nat × (Nat → Nat) × (Nat → Int32) × (Nat → Int32) × (Nat → Int32) × (Nat → Bool) × (Nat → Bool) × (Nat → Int32)
def sg_nc (σ : sg_T) : Nat := σ.1
def sg_pr (σ : sg_T) : Nat → Option Nat := σ.2.1
def sg_pk (σ : sg_T) : Nat → Int32 := σ.2.2.1
def sg_nm (σ : sg_T) : Nat := σ.2.2.2.1
def sg_mc (σ : sg_T) : Nat → Nat := σ.2.2.2.2.1
def sg_kd (σ : sg_T) : Nat → Int32 := σ.2.2.2.2.2.1
def sg_mn (σ : sg_T) : Nat → Int32 := σ.2.2.2.2.2.2.1
def sg_ty (σ : sg_T) : Nat → Int32 := σ.2.2.2.2.2.2.2.1
def sg_fx (σ : sg_T) : Nat → Bool := σ.2.2.2.2.2.2.2.2.1
def sg_fn (σ : sg_T) : Nat → Bool := σ.2.2.2.2.2.2.2.2.2.1
def sg_rg (σ : sg_T) : Nat → Int32 := σ.2.2.2.2.2.2.2.2.2.2
def sg_W (σ : sg_T) : Prop :=
  sg_nc σ ≤ 40 ∧ sg_nm σ ≤ 200 ∧
  (∀ c p, c < sg_nc σ → sg_pr σ c = some p → p < c) ∧
  (∀ m, m < sg_nm σ → sg_mc σ m < sg_nc σ) ∧
  (∀ m, m < sg_nm σ → sg_rg σ m = 0 ∨ sg_rg σ m = 1 ∨ sg_rg σ m = 2 ∨ sg_rg σ m = 3) ∧
  (∀ m, m < sg_nm σ → (sg_kd σ m = 0 ∧ sg_ty σ m = 0) ∨ sg_kd σ m = 1 ∨ (sg_kd σ m = 2 ∧ sg_mn σ m = 0)) ∧
  ∀ i j, i < sg_nm σ → j < sg_nm σ → sg_mc σ i = sg_mc σ j → sg_kd σ i = sg_kd σ j → sg_mn σ i = sg_mn σ j → sg_ty σ i = sg_ty σ j → i = j
def sg_0 : sg_T := (0, fun _ => none, fun _ => 0, 0, fun _ => 0, fun _ => 0, fun _ => 0, fun _ => 0, fun _ => false, fun _ => false, fun _ => 0)
theorem sg_W0 : sg_W sg_0 := by
  refine ⟨Nat.zero_le _, Nat.zero_le _, fun c p h => ?_, fun m h => ?_, fun m h => ?_, fun m h => ?_, fun i j h => ?_⟩ <;> exact absurd h (Nat.not_lt_zero _)
def sg_nw (σ : sg_T) (r : Option Nat) (k : Int32) : sg_T := (sg_nc σ + 1, va_up (sg_pr σ) (sg_nc σ) r, va_up (sg_pk σ) (sg_nc σ) k, sg_nm σ, sg_mc σ, sg_kd σ, sg_mn σ, sg_ty σ, sg_fx σ, sg_fn σ, sg_rg σ)
def sg_ad (σ : sg_T) (c : Nat) (k n t : Int32) (st fn : Bool) (r : Int32) : sg_T := (sg_nc σ, sg_pr σ, sg_pk σ, sg_nm σ + 1, va_up (sg_mc σ) (sg_nm σ) c, va_up (sg_kd σ) (sg_nm σ) k, va_up (sg_mn σ) (sg_nm σ) n, va_up (sg_ty σ) (sg_nm σ) t, va_up (sg_fx σ) (sg_nm σ) st, va_up (sg_fn σ) (sg_nm σ) fn, va_up (sg_rg σ) (sg_nm σ) r)
def sg_ln (pr : Nat → Option Nat) (c : Nat) : List Nat :=
  c :: (match pr c with
    | none => []
    | some p => if h : p < c then sg_ln pr p else [])
termination_by c
def ln_o (pr : Nat → Option Nat) (r : Option Nat) : List Nat := match r with
  | none => []
  | some c => sg_ln pr c
theorem ln_e {pr : Nat → Option Nat} {c : Nat} (h : ∀ p, pr c = some p → p < c) : sg_ln pr c = c :: ln_o pr (pr c) := by
  rw [sg_ln]
  cases hp : pr c with
  | none => rfl
  | some p => simp [ln_o, h p hp]
theorem ln_self {pr : Nat → Option Nat} {c : Nat} : c ∈ sg_ln pr c := by
  rw [sg_ln]
  exact List.mem_cons_self
theorem ln_le {pr : Nat → Option Nat} (c : Nat) : ∀ d, d ∈ sg_ln pr c → d ≤ c := by
  induction c using Nat.strongRecOn with
  | ind c ih =>
    intro d hd
    rw [sg_ln] at hd
    rcases List.mem_cons.mp hd with rfl | hd
    · exact Nat.le_refl _
    · cases hp : pr c with
      | none => rw [hp] at hd; cases hd
      | some p =>
        rw [hp] at hd
        dsimp only at hd
        by_cases hl : p < c
        · rw [dif_pos hl] at hd
          exact Nat.le_of_lt (Nat.lt_of_le_of_lt (ih p hl d hd) hl)
        · rw [dif_neg hl] at hd
          cases hd
def sg_ob (σ : sg_T) (m : Nat) : Bool := decide (sg_kd σ m = 1) && !sg_fx σ m
def sg_mk (σ : sg_T) (k n t : Int32) (m : Nat) : Bool := decide (sg_kd σ m = k) && (decide (sg_mn σ m = n) && decide (sg_ty σ m = t))
def sg_ow (σ : sg_T) (c : Nat) (k n t : Int32) : Option Nat := fo_g (fun m => decide (sg_mc σ m = c) && sg_mk σ k n t m) (sg_nm σ)
def sg_oo (σ : sg_T) (c : Nat) (n t : Int32) : Option Nat := match sg_ow σ c 1 n t with
  | none => none
  | some m => if sg_fx σ m then none else some m
theorem ow_some {σ : sg_T} {c : Nat} {k n t : Int32} {m : Nat} (h : sg_ow σ c k n t = some m) : m < sg_nm σ ∧ sg_mc σ m = c ∧ sg_kd σ m = k ∧ sg_mn σ m = n ∧ sg_ty σ m = t := by
  obtain ⟨a, b⟩ := fo_some h
  simp [sg_mk] at b
  exact ⟨a, b.1, b.2.1, b.2.2.1, b.2.2.2⟩
theorem ow_is {σ : sg_T} (hW : sg_W σ) {c : Nat} {k n t : Int32} {m : Nat} (h1 : m < sg_nm σ) (h2 : sg_mc σ m = c) (h3 : sg_kd σ m = k) (h4 : sg_mn σ m = n) (h5 : sg_ty σ m = t) : sg_ow σ c k n t = some m := by
  refine fo_is h1 (by simp [sg_mk, h2, h3, h4, h5]) fun j hj hp => ?_
  simp [sg_mk] at hp
  exact hW.2.2.2.2.2.2 j m hj h1 (by rw [hp.1, h2]) (by rw [hp.2.1, h3]) (by rw [hp.2.2.1, h4]) (by rw [hp.2.2.2, h5])
theorem ow_none {σ : sg_T} {c : Nat} {k n t : Int32} (h : ∀ m, m < sg_nm σ → ¬ (sg_mc σ m = c ∧ sg_kd σ m = k ∧ sg_mn σ m = n ∧ sg_ty σ m = t)) : sg_ow σ c k n t = none := by
  refine fo_no fun m hm => ?_
  have h1 := h m hm
  cases hq : (decide (sg_mc σ m = c) && sg_mk σ k n t m) with
  | false => rfl
  | true =>
    simp [sg_mk] at hq
    exact absurd ⟨hq.1, hq.2.1, hq.2.2.1, hq.2.2.2⟩ h1
theorem oo_some {σ : sg_T} {c : Nat} {n t : Int32} {m : Nat} (h : sg_oo σ c n t = some m) : m < sg_nm σ ∧ sg_mc σ m = c ∧ sg_kd σ m = 1 ∧ sg_fx σ m = false ∧ sg_mn σ m = n ∧ sg_ty σ m = t := by
  unfold sg_oo at h
  cases e : sg_ow σ c 1 n t with
  | none => rw [e] at h; cases h
  | some j =>
    rw [e] at h
    dsimp only at h
    obtain ⟨a1, a2, a3, a4, a5⟩ := ow_some e
    by_cases hf : sg_fx σ j = true
    · rw [if_pos hf] at h; cases h
    · rw [if_neg hf] at h
      cases h
      exact ⟨a1, a2, a3, by simpa using hf, a4, a5⟩
theorem oo_is {σ : sg_T} (hW : sg_W σ) {m : Nat} (h1 : m < sg_nm σ) (h3 : sg_ob σ m = true) : sg_oo σ (sg_mc σ m) (sg_mn σ m) (sg_ty σ m) = some m := by
  simp [sg_ob] at h3
  unfold sg_oo
  rw [ow_is hW h1 rfl h3.1 rfl rfl]
  dsimp only
  rw [h3.2]
  rfl
def sg_rc (σ : sg_T) (a m : Nat) : Bool :=
  if sg_rg σ m = 0 then decide (a = sg_mc σ m)
  else if sg_rg σ m = 1 then decide (sg_pk σ a = sg_pk σ (sg_mc σ m))
  else if sg_rg σ m = 2 then decide (sg_pk σ a = sg_pk σ (sg_mc σ m)) || decide (sg_mc σ m ∈ sg_ln (sg_pr σ) a)
  else true
def ov_y (σ : sg_T) (L : List Int32) (y : Nat) : Bool := if sg_rg σ y = 1 then L.contains (sg_pk σ (sg_mc σ y)) else decide (¬ sg_rg σ y = 0)
def ov_c (σ : sg_T) (n t : Int32) (L : List Int32) (c : Nat) : Bool := match sg_oo σ c n t with
  | none => false
  | some y => ov_y σ L y
def ov_l (σ : sg_T) (n t : Int32) (g : Nat) : List Int32 → List Nat → Bool
  | _, [] => false
  | L, c :: cs => if c = g then ov_c σ n t L c else ov_l σ n t g (if ov_c σ n t L c then L ++ [sg_pk σ c] else L) cs
def ov_r (σ : sg_T) (c : Nat) (n t r : Int32) (j : Nat) : Bool := decide (¬ r = 0) && (decide (¬ sg_rg σ j = 0) && ov_l σ n t (sg_mc σ j) [sg_pk σ c] (ln_o (sg_pr σ) (sg_pr σ c)))
def cl_l (σ : sg_T) (j : Nat) : List Nat → Nat
  | [] => j
  | c :: cs => if c = sg_mc σ j then j else match sg_oo σ c (sg_mn σ j) (sg_ty σ j) with
    | none => cl_l σ j cs
    | some x => if ov_r σ c (sg_mn σ j) (sg_ty σ j) (sg_rg σ x) j then x else cl_l σ j cs
def sg_cl (σ : sg_T) (j c : Nat) : Nat := if sg_rg σ j = 0 then j else cl_l σ j (sg_ln (sg_pr σ) c)
def fi_c (σ : sg_T) (n t w : Int32) (c : Nat) : Option Nat := if 4 ≤ w then sg_ow σ c 0 n 0 else match sg_ow σ c 1 n t with
  | none => none
  | some m => if sg_fx σ m = decide (w = 0) then some m else none
def fi_l (σ : sg_T) (n t w : Int32) : List Nat → Option Nat
  | [] => none
  | c :: cs => match fi_c σ n t w c with
    | some m => some m
    | none => fi_l σ n t w cs
def sg_fi (σ : sg_T) (j : Nat) (n t w : Int32) : Option Nat := if w = 3 then sg_ow σ j 2 0 t else fi_l σ n t w (sg_ln (sg_pr σ) j)
def fb_c (σ : sg_T) (h : Nat) (n t : Int32) (st : Bool) (r : Int32) (c : Nat) : Bool := match sg_oo σ c n t with
  | none => false
  | some m => decide (¬ sg_rg σ m = 0) && (if st then sg_rc σ h m else (sg_fn σ m || decide (r < sg_rg σ m)) && ov_r σ h n t r m)
def fb_l (σ : sg_T) (h : Nat) (n t : Int32) (st : Bool) (r : Int32) : List Nat → Bool
  | [] => false
  | c :: cs => fb_c σ h n t st r c || fb_l σ h n t st r cs
def sg_fb (σ : sg_T) (h : Nat) (n t : Int32) (st : Bool) (r : Int32) : Bool := fb_l σ h n t st r (ln_o (sg_pr σ) (sg_pr σ h))
def sg_nr (σ : sg_T) (c : Nat) (k n t : Int32) (st : Bool) (r : Int32) : Int32 :=
  if n < 0 ∨ 99 < n ∨ r < 0 ∨ 3 < r then 2
  else if (sg_ow σ c k n t).isSome = true then 4
  else if k = 1 ∧ sg_fb σ c n t st r = true then 8
  else if 200 ≤ sg_nm σ then 5 else 0
def sg_hd (σ : sg_T) (m j : Nat) : Bool := if sg_kd σ m = 0 then decide (¬ sg_fi σ j (sg_mn σ m) 0 4 = some m) else sg_ob σ m && decide (¬ sg_cl σ m j = m)
def sg_cn (P : Nat → Bool) : Nat → Nat
  | 0 => 0
  | n + 1 => sg_cn P n + (if P n then 1 else 0)
def sp_nc (σ : sg_T) (v k : Int32) : Int32 × sg_T := if 40 ≤ sg_nc σ then (-1, σ) else if v = -1 then (nI (sg_nc σ), sg_nw σ none k) else match ix_o v (sg_nc σ) with
  | none => (-1, σ)
  | some i => (nI (sg_nc σ), sg_nw σ (some i) k)
def sp_be (σ : sg_T) (a b : Int32) : Bool := match ix_o a (sg_nc σ), ix_o b (sg_nc σ) with
  | some i, some j => decide (j ∈ sg_ln (sg_pr σ) i)
  | _, _ => false
def sp_ad (σ : sg_T) (o k n t : Int32) (st fn : Bool) (r : Int32) : Int32 × Int32 × sg_T := match ix_o o (sg_nc σ) with
  | none => (-1, 1, σ)
  | some c => if sg_nr σ c k n t st r = 0 then (nI (sg_nm σ), 0, sg_ad σ c k n t st fn r) else (-1, sg_nr σ c k n t st r, σ)
def sp_fi (σ : sg_T) (a o n t w : Int32) : Int32 × Int32 := match ix_o a (sg_nc σ), ix_o o (sg_nc σ) with
  | some i, some j =>
    if w < 0 ∨ 5 < w then (-1, 1)
    else if ¬ w = 3 ∧ (n < 0 ∨ 99 < n) then (-1, 2)
    else match sg_fi σ j n t w with
      | none => (-1, 6)
      | some f =>
        if sg_rc σ i f = false ∨ (w = 2 ∧ ¬ j ∈ sg_ln (sg_pr σ) i) then (-1, 7)
        else if w = 5 ∧ sg_fn σ f = true ∧ ¬ i = sg_mc σ f then (-1, 3)
        else (nI f, 0)
  | _, _ => (-1, 1)
def sp_re (σ : sg_T) (a m : Int32) : Bool := match ix_o a (sg_nc σ), ix_o m (sg_nm σ) with
  | some i, some j => sg_rc σ i j
  | _, _ => false
def sp_ca (σ : sg_T) (m o : Int32) : Int32 := match ix_o m (sg_nm σ), ix_o o (sg_nc σ) with
  | some j, some c => if sg_ob σ j = true ∧ sg_mc σ j ∈ sg_ln (sg_pr σ) c then nI (sg_cl σ j c) else -1
  | _, _ => -1
def sp_ov (σ : sg_T) (x m : Int32) : Bool := match ix_o x (sg_nm σ), ix_o m (sg_nm σ) with
  | some i, some j => sg_ob σ i && (sg_ob σ j && (decide (sg_mn σ i = sg_mn σ j) && (decide (sg_ty σ i = sg_ty σ j) && ov_r σ (sg_mc σ i) (sg_mn σ i) (sg_ty σ i) (sg_rg σ i) j)))
  | _, _ => false
def sp_me (σ : sg_T) (m w : Int32) : Int32 := match ix_o m (sg_nm σ) with
  | none => -1
  | some j => if w = 0 then nI (sg_mc σ j) else if w = 1 then sg_mn σ j else if w = 2 then sg_rg σ j else if w = 3 then mb_i (sg_fx σ j) else if w = 4 then mb_i (sg_fn σ j) else if w = 5 then sg_kd σ j else if w = 6 then sg_ty σ j else -1
def sp_se (σ : sg_T) (a o : Int32) : Int32 := match ix_o a (sg_nc σ), ix_o o (sg_nc σ) with
  | some i, some j => nI (sg_cn (fun m => decide (sg_mc σ m ∈ sg_ln (sg_pr σ) j) && (sg_rc σ i m && !sg_hd σ m j)) (sg_nm σ))
  | _, _ => -1
end
section
abbrev mw_M : Type := Nat → Option ((Nat × Nat) × va_E)
def mw_up (M : mw_M) (a : Nat) (x : (Nat × Nat) × va_E) : mw_M := fun q => if q = a then some x else M q
theorem mw_at {M : mw_M} {a : Nat} {x : (Nat × Nat) × va_E} : mw_up M a x a = some x := by simp [mw_up]
theorem mw_ne {M : mw_M} {a b : Nat} {x : (Nat × Nat) × va_E} (h : b ≠ a) : mw_up M a x b = M b := by simp [mw_up, h]
theorem mw_uu {M : mw_M} {a : Nat} {x y : (Nat × Nat) × va_E} : mw_up (mw_up M a x) a y = mw_up M a y := by
  funext q
  by_cases h : q = a <;> simp [mw_up, h]
theorem mw_id {M : mw_M} {a : Nat} {x : (Nat × Nat) × va_E} (h : M a = some x) : mw_up M a x = M := by
  funext q
  by_cases hq : q = a
  · subst hq; simp [mw_up, h]
  · simp [mw_up, hq]
theorem ml_ne {M : mw_M} {a b : Nat} {r t : Nat × Nat} {e f : va_E} (ha : M a = some (r, e)) (hb : M b = some (t, f)) (h : r ≠ t) : a ≠ b := fun q => by
  subst q
  rw [ha] at hb
  exact h (congrArg Prod.fst (Option.some.inj hb))
theorem mw_old {M : mw_M} {a b : Nat} {x y : (Nat × Nat) × va_E} (hn : M a = none) (h : M b = some y) : mw_up M a x b = some y := by
  rw [mw_ne (fun q => by subst q; rw [hn] at h; cases h), h]
theorem mw_oth {M : mw_M} {a b : Nat} {r t : Nat × Nat} {e f g : va_E} (ha : M a = some (r, e)) (hb : M b = some (t, f)) (h : t ≠ r) : mw_up M a (r, g) b = some (t, f) := by
  rw [mw_ne (ml_ne hb ha h), hb]
abbrev mw_G : Type := va_G × Nat × ClassId × ClassId × ClassId × ClassId
def mw_ty (G : mw_G) : List (ClassId × FieldType) := [(G.2.2.1, .int), (G.2.2.2.1, .boolean), (G.2.2.2.2.1, .object RC), (G.2.2.2.2.2, .object RN)]
def mw_A (G : mw_G) : Nat → Prop := fun q => G.2.1 ≤ q
def mw_H (G : mw_G) (M : mw_M) (H : Heap) : Prop := G.2.1 ≤ H.size ∧ ∃ ws : va_W, va_P G.1 vwCl ws H ∧ va_D (mw_A G) ws ∧ ∀ (a : Nat) (r : Nat × Nat) (e : va_E), M a = some (r, e) → (a, e) ∈ ws
def mw_S (G : mw_G) (M : mw_M) (H0 H : Heap) (locs : List Loc) : Prop := G.2.1 ≤ H0.size ∧ mw_H G M H ∧ va_S (mw_A G) H0 H locs
def mw_K (G : mw_G) (U : State) : Prop := va_K G.1 vwCl (mw_ty G) U ∧ va_AO RC U ∧ va_AO RN U
theorem mw_Km {G : mw_G} {u U : State} (hvm : u.vm.Alike U.vm) (h : mw_K G u) : mw_K G U := ⟨va_K.moved hvm h.1, va_AO.moved hvm h.2.1, va_AO.moved hvm h.2.2⟩
def mw_F (p : Program) (m : MethodId) (meth : Method) (c : Code) (cc : ByteArray) (nL : Nat) (s : State) (args : Array Value) (own : String) (G : mw_G) : Prop :=
  p.tables.exec = Jvm.exec ∧ c.code = cc ∧ c.maxLocals = nL ∧ s.vm.findClass own = some m.cls ∧ (∀ w ∈ mw_tb, w.before args s = true) ∧ mw_K G s ∧ meth.locks = false
abbrev oe_ (ci : Nat) (fs : List Value) : va_E := .inr (ci, fs)
abbrev aI_ (G : mw_G) (n : Nat) (f : Nat → Int32) : va_E := .inl (G.2.2.1, n, .inl f)
abbrev aZ_ (G : mw_G) (n : Nat) (f : Nat → Int32) : va_E := .inl (G.2.2.2.1, n, .inl f)
abbrev aC_ (G : mw_G) (n : Nat) (f : Nat → Option Nat) : va_E := .inl (G.2.2.2.2.1, n, .inr (.inr (.inr (.inr f))))
abbrev aN_ (G : mw_G) (n : Nat) (f : Nat → Option Nat) : va_E := .inl (G.2.2.2.2.2, n, .inr (.inr (.inr (.inr f))))
def mw_Pc (G : mw_G) (M : mw_M) (av : List Value) : Array Value → State → Prop := va_Pc av (fun U => mw_H G M U.heap ∧ mw_K G U)
def mw_Q (G : mw_G) (P : Option Value → mw_M → Prop) : Array Value → State → Outcome → State → Prop := fun _ st oc t => (∃ (v : Option Value) (M' : mw_M), oc = .returned v ∧ P v M' ∧ mw_H G M' t.heap) ∧ va_F (mw_A G) st t
def mw_C (l : Launch) (G : mw_G) (y : MethodName) (bytes : ByteArray) (maxL : Nat) (ret : Option FieldType) (rm : Room) (M : mw_M) (av : List Value) (P : Option Value → mw_M → Prop) : Prop :=
  Met l y (Cond.code y bytes maxL ret :: mw_tb) rm (mw_Pc G M av) (mw_Q G P) rm.cells rm.slots (mw_A G)
theorem mw_bl {G : mw_G} {M : mw_M} {av : List Value} : FrameBlind (mw_Pc G M av) := fun a U g mk q => ⟨q.1, q.2.1, mw_Km (u := U) (U := U.calling g mk a) (Vm.Alike.refl U.vm) q.2.2⟩
theorem mw_mset {M : mw_M} {ws : va_W} {a q0 : Nat} {r0 : Nat × Nat} {e0 e' : va_E} (hm : ∀ (a : Nat) (r : Nat × Nat) (e : va_E), M a = some (r, e) → (a, e) ∈ ws) (hq : ws[q0]? = some (a, e0)) : ∀ (b : Nat) (r : Nat × Nat) (e : va_E), mw_up M a (r0, e') b = some (r, e) → (b, e) ∈ ws.set q0 (a, e') := by
  have hl := (List.getElem?_eq_some_iff.mp hq).1
  intro b r e h
  by_cases hb : b = a
  · subst hb
    rw [mw_at] at h
    cases h
    exact List.mem_of_getElem? (List.getElem?_set_self hl)
  · rw [mw_ne hb] at h
    obtain ⟨j, hj⟩ := List.getElem?_of_mem (hm b r e h)
    have hne : j ≠ q0 := fun z => by
      subst z
      rw [hq] at hj
      cases hj
      exact hb rfl
    exact List.mem_of_getElem? (i := j) (by rw [List.getElem?_set_ne (Ne.symm hne)]; exact hj)
theorem mw_mnew {A : Nat → Prop} {M : mw_M} {ws : va_W} {q : Nat} {r0 : Nat × Nat} {e0 : va_E} (hm : ∀ (a : Nat) (r : Nat × Nat) (e : va_E), M a = some (r, e) → (a, e) ∈ ws) (hD : va_D A (ws ++ [(q, e0)])) : M q = none ∧ ∀ (b : Nat) (r : Nat × Nat) (e : va_E), mw_up M q (r0, e0) b = some (r, e) → (b, e) ∈ ws ++ [(q, e0)] := by
  refine ⟨?_, fun b r e h => ?_⟩
  · cases hM : M q with
    | none => rfl
    | some x =>
      obtain ⟨r, e⟩ := x
      obtain ⟨j, hj⟩ := List.getElem?_of_mem (hm q r e hM)
      have hl := (List.getElem?_eq_some_iff.mp hj).1
      have h1 : (ws ++ [(q, e0)])[j]? = some (q, e) := by rw [List.getElem?_append_left hl]; exact hj
      have h2 : (ws ++ [(q, e0)])[ws.length]? = some (q, e0) := by simp
      have := hD.1 j ws.length _ _ h1 h2 rfl
      omega
  · by_cases hb : b = q
    · subst hb
      rw [mw_at] at h
      cases h
      exact List.mem_append_right _ List.mem_cons_self
    · rw [mw_ne hb] at h
      exact List.mem_append_left _ (hm b r e h)
section MW
variable {p : Program} {l : Launch} {e : Env} {R : Room} {s : State} {m : MethodId} {args : Array Value} {below : List Frame} {meth : Method} {c : Code} {H : Heap} {locs : List Loc} {cells slots : Nat} {Q : State → Prop}
variable {cc : ByteArray} {pc nL : Nat} {ls : Array Slot} {rest : List Value} {own : String} {G : mw_G} {M : mw_M} {a : Nat} {r : Nat × Nat}
theorem mw_get (F : mw_F p m meth c cc nL s args own G) {ref C : String} {T : u_T} {N ci index : Nat} {fs : List Value} {v : Value} (hin : ∀ w ∈ u_ws C T N, w ∈ mw_tb) (hc : vwCl[ci]? = some (C, T, N)) (k : Nat) (hk : k < N) (hlink : Cond.fieldLink own index ref (T k).2.1 (T k).2.2.1 ∈ mw_tb) (hsame : (T k).1 = ref)
    (hM : mw_S G M s.heap H locs) (he : M a = some (r, .inr (ci, fs))) (hv : fs[k]? = some v) (hdg : decode cc pc = .ok (.getfield index, 3))
    (kk : W p l e R s m args below meth c H locs cells slots Q (F0 m (pc + 3) ls (v :: rest))) : W p l e R s m args below meth c H locs cells slots Q (F0 m pc ls (.ref a :: rest)) := by
  obtain ⟨hx, hb, -, hown, hts, ⟨hK, hAO⟩, -⟩ := F
  obtain ⟨-, ⟨-, ws, hP, -, hm⟩, -⟩ := hM
  obtain ⟨q0, hq⟩ := List.getElem?_of_mem (hm a r _ he)
  exact va_get hx hb hts hin hown hK hP q0 hq hc k hk (hts _ hlink) (fun x h => by rw [← hsame]; exact h) hv hdg kk
theorem mw_put (F : mw_F p m meth c cc nL s args own G) {ref C : String} {T : u_T} {N ci index : Nat} {fs : List Value} {v : Value} {ty : FieldType} (hin : ∀ w ∈ u_ws C T N, w ∈ mw_tb) (ty0 : Nat → FieldType) (hty : ∀ k, k < N → parseFieldDescriptor (T k).2.2.1 = some (ty0 k)) (hnm : ∀ a, a < N → ∀ b, b < N → a ≠ b → (T a).2.1 ≠ (T b).2.1) (hc : vwCl[ci]? = some (C, T, N)) (k : Nat) (hk : k < N) (hlink : Cond.fieldLink own index ref (T k).2.1 (T k).2.2.1 ∈ mw_tb) (hsame : (T k).1 = ref)
    (hfin : (T k).2.2.2 = false ∨ ((T k).2.2.2 = true ∧ meth.name = "<init>" ∧ (T k).1 = own)) (hd : parseFieldDescriptor (T k).2.2.1 = some ty) (hn : narrow ty v = v) (hfit : fits ty v = true)
    (hM : mw_S G M s.heap H locs) (he : M a = some (r, .inr (ci, fs))) (hl : k < fs.length) (hdg : decode cc pc = .ok (.putfield index, 3))
    (kk : ∀ (H1 : Heap) (locs1 : List Loc), mw_S G (mw_up M a (r, .inr (ci, fs.set k v))) s.heap H1 locs1 → W p l e R s m args below meth c H1 locs1 cells slots Q (F0 m (pc + 3) ls rest)) : W p l e R s m args below meth c H locs cells slots Q (F0 m pc ls (v :: .ref a :: rest)) := by
  obtain ⟨hx, hb, -, hown, hts, ⟨hK, hAO⟩, -⟩ := F
  obtain ⟨hz, ⟨-, ws, hP, hD, hm⟩, hS⟩ := hM
  obtain ⟨q0, hq⟩ := List.getElem?_of_mem (hm a r _ he)
  have kk2 : ∀ (H1 : Heap) (locs1 : List Loc), va_P G.1 vwCl (ws.set q0 (a, .inr (ci, fs.set k v))) H1 → va_D (mw_A G) (ws.set q0 (a, .inr (ci, fs.set k v))) → va_S (mw_A G) s.heap H1 locs1 → W p l e R s m args below meth c H1 locs1 cells slots Q (F0 m (pc + 3) ls rest) :=
    fun H1 locs1 hP1 hD1 hS1 => kk H1 locs1 ⟨hz, ⟨Nat.le_trans hz hS1.1, _, hP1, hD1, mw_mset hm hq⟩, hS1⟩
  rcases hfin with hf | ⟨hf, hi, ho⟩
  · exact va_put hx hb hts hin ty0 hty hnm hown hK hP hD hS q0 hq hc k hk (hts _ hlink) (fun x h => by rw [← hsame]; exact h) hf hd hn hfit hl hdg kk2
  · exact va_putF hx hb hts hin ty0 hty hnm hown hK hP hD hS q0 hq hc k hk (hts _ hlink) (fun x h => by rw [← hsame]; exact h) hf hi ho hd hn hfit hl hdg kk2
theorem mw_new (F : mw_F p m meth c cc nL s args own G) {C : String} {T : u_T} {N ci index : Nat} {fs : List Value} (r : Nat × Nat) (hin : ∀ w ∈ u_ws C T N, w ∈ mw_tb) (ty0 : Nat → FieldType) (hty : ∀ k, k < N → parseFieldDescriptor (T k).2.2.1 = some (ty0 k)) (hc : vwCl[ci]? = some (C, T, N)) (hcl : Cond.classLink own index C ∈ mw_tb) (hinst : Cond.instantiable C N ∈ mw_tb) (hini : Cond.initialized C ∈ mw_tb) (hfs : ∀ j, j < N → defaultValue (ty0 j) = vp_V fs j)
    (hM : mw_S G M s.heap H locs) (hcs : cells + 1 ≤ R.cells ∧ slots + N ≤ R.slots) (hdg : decode cc pc = .ok (.new index, 3))
    (kk : ∀ (q : Nat) (H1 : Heap), M q = none → mw_S G (mw_up M q (r, .inr (ci, fs))) s.heap H1 locs → W p l e R s m args below meth c H1 locs (cells + 1) (slots + N) Q (F0 m (pc + 3) ls (.ref q :: rest))) : W p l e R s m args below meth c H locs cells slots Q (F0 m pc ls rest) := by
  obtain ⟨hx, hb, -, hown, hts, ⟨hK, hAO⟩, -⟩ := F
  obtain ⟨hz, ⟨-, ws, hP, hD, hm⟩, hS⟩ := hM
  refine va_new hx hb hts hin ty0 hty hown (hts _ hcl) (hts _ hinst) (hts _ hini) hK hP hD hS (fun q h => Nat.le_trans hz h) hc hfs hcs.1 hcs.2 hdg (fun q H1 hP1 hD1 hS1 => ?_)
  obtain ⟨h1, h2⟩ := mw_mnew (r0 := r) hm hD1
  exact kk q H1 h1 ⟨hz, ⟨Nat.le_trans hz hS1.1, _, hP1, hD1, h2⟩, hS1⟩
theorem mw_ild (F : mw_F p m meth c cc nL s args own G) {n : Nat} {f : Nat → Int32} {i : Int32} (hM : mw_S G M s.heap H locs) (he : M a = some (r, aI_ G n f)) (hin : vp_in i n) (hdg : decode cc pc = .ok (.iaload, 1))
    (kk : W p l e R s m args below meth c H locs cells slots Q (F0 m (pc + 1) ls (.int (f i.toNatClampNeg) :: rest))) : W p l e R s m args below meth c H locs cells slots Q (F0 m pc ls (.int i :: .ref a :: rest)) := by
  obtain ⟨hx, hb, -, hown, hts, ⟨hK, hAO⟩, -⟩ := F
  obtain ⟨-, ⟨-, ws, hP, -, hm⟩, -⟩ := hM
  obtain ⟨q0, hq⟩ := List.getElem?_of_mem (hm a r _ he)
  exact va_iald hx hb hK hP q0 0 hq rfl hin hdg kk
theorem mw_zld (F : mw_F p m meth c cc nL s args own G) {n : Nat} {f : Nat → Int32} {i : Int32} (hM : mw_S G M s.heap H locs) (he : M a = some (r, aZ_ G n f)) (hin : vp_in i n) (hdg : decode cc pc = .ok (.baload, 1))
    (kk : W p l e R s m args below meth c H locs cells slots Q (F0 m (pc + 1) ls (.int (f i.toNatClampNeg) :: rest))) : W p l e R s m args below meth c H locs cells slots Q (F0 m pc ls (.int i :: .ref a :: rest)) := by
  obtain ⟨hx, hb, -, hown, hts, ⟨hK, hAO⟩, -⟩ := F
  obtain ⟨-, ⟨-, ws, hP, -, hm⟩, -⟩ := hM
  obtain ⟨q0, hq⟩ := List.getElem?_of_mem (hm a r _ he)
  exact va_zald hx hb hK hP q0 1 hq rfl hin hdg kk
theorem mw_cld (F : mw_F p m meth c cc nL s args own G) {n : Nat} {f : Nat → Option Nat} {i : Int32} (hM : mw_S G M s.heap H locs) (he : M a = some (r, aC_ G n f)) (hin : vp_in i n) (hdg : decode cc pc = .ok (.aaload, 1))
    (kk : W p l e R s m args below meth c H locs cells slots Q (F0 m (pc + 1) ls (va_rf (f i.toNatClampNeg) :: rest))) : W p l e R s m args below meth c H locs cells slots Q (F0 m pc ls (.int i :: .ref a :: rest)) := by
  obtain ⟨hx, hb, -, hown, hts, ⟨hK, hAO⟩, -⟩ := F
  obtain ⟨-, ⟨-, ws, hP, -, hm⟩, -⟩ := hM
  obtain ⟨q0, hq⟩ := List.getElem?_of_mem (hm a r _ he)
  exact va_aldq hx hb hK hP q0 2 hq rfl hin hdg kk
theorem mw_nld (F : mw_F p m meth c cc nL s args own G) {n : Nat} {f : Nat → Option Nat} {i : Int32} (hM : mw_S G M s.heap H locs) (he : M a = some (r, aN_ G n f)) (hin : vp_in i n) (hdg : decode cc pc = .ok (.aaload, 1))
    (kk : W p l e R s m args below meth c H locs cells slots Q (F0 m (pc + 1) ls (va_rf (f i.toNatClampNeg) :: rest))) : W p l e R s m args below meth c H locs cells slots Q (F0 m pc ls (.int i :: .ref a :: rest)) := by
  obtain ⟨hx, hb, -, hown, hts, ⟨hK, hAO⟩, -⟩ := F
  obtain ⟨-, ⟨-, ws, hP, -, hm⟩, -⟩ := hM
  obtain ⟨q0, hq⟩ := List.getElem?_of_mem (hm a r _ he)
  exact va_aldq hx hb hK hP q0 3 hq rfl hin hdg kk
theorem mw_ist (F : mw_F p m meth c cc nL s args own G) {n : Nat} {f : Nat → Int32} {i x : Int32} (hM : mw_S G M s.heap H locs) (he : M a = some (r, aI_ G n f)) (hin : vp_in i n) (hdg : decode cc pc = .ok (.iastore, 1))
    (kk : ∀ (H1 : Heap) (locs1 : List Loc), mw_S G (mw_up M a (r, aI_ G n (upd f i.toNatClampNeg x))) s.heap H1 locs1 → W p l e R s m args below meth c H1 locs1 cells slots Q (F0 m (pc + 1) ls rest)) : W p l e R s m args below meth c H locs cells slots Q (F0 m pc ls (.int x :: .int i :: .ref a :: rest)) := by
  obtain ⟨hx, hb, -, hown, hts, ⟨hK, hAO⟩, -⟩ := F
  obtain ⟨hz, ⟨-, ws, hP, hD, hm⟩, hS⟩ := hM
  obtain ⟨q0, hq⟩ := List.getElem?_of_mem (hm a r _ he)
  exact va_iast hx hb hK hP hD hS q0 0 hq rfl hin hdg (fun H1 locs1 hP1 hD1 hS1 => kk H1 locs1 ⟨hz, ⟨Nat.le_trans hz hS1.1, _, hP1, hD1, mw_mset hm hq⟩, hS1⟩)
theorem mb_nar (b : Bool) : vp_nar .boolean (mb_i b) = mb_i b := by cases b <;> rfl
theorem mb_narrow (b : Bool) : narrow .boolean (.int (mb_i b)) = .int (mb_i b) := by cases b <;> rfl
theorem mb_fits (b : Bool) : fits .boolean (.int (mb_i b)) = true := by cases b <;> rfl
theorem mw_zst (F : mw_F p m meth c cc nL s args own G) {n : Nat} {f : Nat → Int32} {i : Int32} {b : Bool} (hM : mw_S G M s.heap H locs) (he : M a = some (r, aZ_ G n f)) (hin : vp_in i n) (hdg : decode cc pc = .ok (.bastore, 1))
    (kk : ∀ (H1 : Heap) (locs1 : List Loc), mw_S G (mw_up M a (r, aZ_ G n (upd f i.toNatClampNeg (mb_i b)))) s.heap H1 locs1 → W p l e R s m args below meth c H1 locs1 cells slots Q (F0 m (pc + 1) ls rest)) : W p l e R s m args below meth c H locs cells slots Q (F0 m pc ls (.int (mb_i b) :: .int i :: .ref a :: rest)) := by
  obtain ⟨hx, hb, -, hown, hts, ⟨hK, hAO⟩, -⟩ := F
  obtain ⟨hz, ⟨-, ws, hP, hD, hm⟩, hS⟩ := hM
  obtain ⟨q0, hq⟩ := List.getElem?_of_mem (hm a r _ he)
  refine va_zast hx hb hK hP hD hS q0 1 hq rfl hin hdg (fun H1 locs1 hP1 hD1 hS1 => ?_)
  rw [mb_nar] at hP1 hD1
  exact kk H1 locs1 ⟨hz, ⟨Nat.le_trans hz hS1.1, _, hP1, hD1, mw_mset hm hq⟩, hS1⟩
theorem mw_ast (F : mw_F p m meth c cc nL s args own G) (t0 ci : Nat) {cA : ClassId} {rr : vw_C} {n v : Nat} {r2 : Nat × Nat} {vs : List Value} {f : Nat → Option Nat} {i : Int32} (hM : mw_S G M s.heap H locs) (he : M a = some (r, .inl (cA, n, .inr (.inr (.inr (.inr f)))))) (ht : (mw_ty G)[t0]? = some (cA, .object rr.1)) (hv : M v = some (r2, .inr (ci, vs))) (hc : vwCl[ci]? = some rr) (hin : vp_in i n) (hdg : decode cc pc = .ok (.aastore, 1))
    (kk : ∀ (H1 : Heap) (locs1 : List Loc), mw_S G (mw_up M a (r, .inl (cA, n, .inr (.inr (.inr (.inr (va_up f i.toNatClampNeg (some v)))))))) s.heap H1 locs1 → W p l e R s m args below meth c H1 locs1 cells slots Q (F0 m (pc + 1) ls rest)) : W p l e R s m args below meth c H locs cells slots Q (F0 m pc ls (.ref v :: .int i :: .ref a :: rest)) := by
  obtain ⟨hx, hb, -, hown, hts, ⟨hK, hAO⟩, -⟩ := F
  obtain ⟨hz, ⟨-, ws, hP, hD, hm⟩, hS⟩ := hM
  obtain ⟨q0, hq⟩ := List.getElem?_of_mem (hm a r _ he)
  obtain ⟨qk, hqk⟩ := List.getElem?_of_mem (hm v r2 _ hv)
  exact va_astq hx hb hK hP hD hS q0 t0 qk ci hq ht hqk hc hin hdg (fun H1 locs1 hP1 hD1 hS1 => kk H1 locs1 ⟨hz, ⟨Nat.le_trans hz hS1.1, _, hP1, hD1, mw_mset hm hq⟩, hS1⟩)
theorem mw_len (F : mw_F p m meth c cc nL s args own G) (t0 : Nat) {cA : ClassId} {x : vp_A} {ty : FieldType} {v : Int32} (hM : mw_S G M s.heap H locs) (he : M a = some (r, .inl (cA, x))) (ht : (mw_ty G)[t0]? = some (cA, ty)) (hv : Int32.ofNat x.1 = v) (hdg : decode cc pc = .ok (.arraylength, 1))
    (kk : W p l e R s m args below meth c H locs cells slots Q (F0 m (pc + 1) ls (.int v :: rest))) : W p l e R s m args below meth c H locs cells slots Q (F0 m pc ls (.ref a :: rest)) := by
  obtain ⟨hx, hb, -, hown, hts, ⟨hK, hAO⟩, -⟩ := F
  obtain ⟨-, ⟨-, ws, hP, -, hm⟩, -⟩ := hM
  obtain ⟨q0, hq⟩ := List.getElem?_of_mem (hm a r _ he)
  exact va_alen hx hb hK hP q0 t0 hq ht hv hdg kk
theorem mv_i {x y : Int32} (h : x = y) (k : W p l e R s m args below meth c H locs cells slots Q (F0 m pc ls (.int y :: rest))) : W p l e R s m args below meth c H locs cells slots Q (F0 m pc ls (.int x :: rest)) := h ▸ k
theorem mv_v {x y : Value} (h : x = y) (k : W p l e R s m args below meth c H locs cells slots Q (F0 m pc ls (y :: rest))) : W p l e R s m args below meth c H locs cells slots Q (F0 m pc ls (x :: rest)) := h ▸ k
theorem mv_ald_n (hx : p.tables.exec = Jvm.exec) (hb : c.code = cc) {k : Fin 4} {i : Nat} {o : Option Nat} (hdg : decode cc pc = .ok (.aload_n k, 1)) (hi : (k : Nat) = i) (hl : ls[i]? = some (.val (va_rf o)))
    (kk : W p l e R s m args below meth c H locs cells slots Q (F0 m (pc + 1) ls (va_rf o :: rest))) : W p l e R s m args below meth c H locs cells slots Q (F0 m pc ls rest) := by
  cases o with
  | none => exact lv_aload_nN hx hb hdg hi hl kk
  | some x => exact lv_aload_n hx hb hdg hi hl kk
theorem mv_ald (hx : p.tables.exec = Jvm.exec) (hb : c.code = cc) {i : Nat} {o : Option Nat} (hdg : decode cc pc = .ok (.aload i, 2)) (hl : ls[i]? = some (.val (va_rf o)))
    (kk : W p l e R s m args below meth c H locs cells slots Q (F0 m (pc + 2) ls (va_rf o :: rest))) : W p l e R s m args below meth c H locs cells slots Q (F0 m pc ls rest) := by
  cases o with
  | none => exact lv_aloadN hx hb hdg hl kk
  | some x => exact lv_aload hx hb hdg hl kk
theorem mv_ast_n (hx : p.tables.exec = Jvm.exec) (hb : c.code = cc) {k : Fin 4} {i : Nat} {o : Option Nat} {lv lv' : List (Nat × Value)} (hdg : decode cc pc = .ok (.astore_n k, 1)) (hi : (k : Nat) = i) (h : lv_has ls nL lv) (hn : i < nL) (hl : (i, va_rf o) :: lv.filter (fun q => !(q.1 == i) && !(q.1 + 1 == i && q.2.category == 2)) = lv')
    (kk : ∀ ls' : Array Slot, lv_has ls' nL lv' → W p l e R s m args below meth c H locs cells slots Q (F0 m (pc + 1) ls' rest)) : W p l e R s m args below meth c H locs cells slots Q (F0 m pc ls (va_rf o :: rest)) := by
  cases o with
  | none => exact lv_astore_nN hx hb hdg hi h hn hl kk
  | some x => exact lv_astore_n hx hb hdg hi h hn hl kk
theorem mv_ast (hx : p.tables.exec = Jvm.exec) (hb : c.code = cc) {i : Nat} {o : Option Nat} {lv lv' : List (Nat × Value)} (hdg : decode cc pc = .ok (.astore i, 2)) (h : lv_has ls nL lv) (hn : i < nL) (hl : (i, va_rf o) :: lv.filter (fun q => !(q.1 == i) && !(q.1 + 1 == i && q.2.category == 2)) = lv')
    (kk : ∀ ls' : Array Slot, lv_has ls' nL lv' → W p l e R s m args below meth c H locs cells slots Q (F0 m (pc + 2) ls' rest)) : W p l e R s m args below meth c H locs cells slots Q (F0 m pc ls (va_rf o :: rest)) := by
  cases o with
  | none => exact lv_astoreN hx hb hdg h hn hl kk
  | some x => exact lv_astore hx hb hdg h hn hl kk
def mp_ (v0 : Option Value) (M : mw_M) : Option Value → mw_M → Prop := fun v M' => v = v0 ∧ M' = M
def pl_ (G : mw_G) (ql : Nat) (v0 : Option Value) (M : mw_M) : Option Value → mw_M → Prop := fun v M' => v = v0 ∧ ∃ lp' : Nat → Int32, M' = mw_up M ql ((3, 0), aI_ G 40 lp')
theorem mv_ct (o : Option Nat) : (va_rf o).category = 1 := by cases o <;> rfl
theorem mw_gi {y : MethodName} {bytes : ByteArray} {maxL : Nat} {ret : Option FieldType} (h : Cond.code y bytes maxL ret ∈ mw_tb) : GoodIn mw_tb (Cond.code y bytes maxL ret :: mw_tb) := fun w hw => by
  rcases List.mem_cons.mp hw with rfl | hw
  · exact ⟨h, mw_good _ h⟩
  · exact ⟨hw, mw_good _ hw⟩
variable {y : MethodName} {bytes : ByteArray} {maxL n index : Nat} {ret : Option FieldType} {rm : Room} {P : Option Value → mw_M → Prop} {As st0 : List Value} {b : Nat}
theorem mw_call {mc ms : Nat} {aa : Array Value} (hr : va_Run p l e R s m args below meth c H locs cells slots mc ms (F0 m pc ls st0) rest (mw_Q G P aa) (mw_A G)) (hM : mw_S G M s.heap H locs)
    (kk : ∀ (v : Option Value) (M' : mw_M) (H1 : Heap) (locs1 : List Loc), P v M' → mw_S G M' s.heap H1 locs1 → W p l e R s m args below meth c H1 locs1 (cells + mc) (slots + ms) Q (F0 m (pc + 3) ls (v.toList ++ rest))) : W p l e R s m args below meth c H locs cells slots Q (F0 m pc ls st0) := by
  intro T hT X
  obtain ⟨v, st₀, t, T', L, h0, X', hL, e1, e2, ⟨⟨v', M', hv, hp, hH⟩, hz, hk⟩, st⟩ := hr T hT X
  cases hv
  rw [h0] at hz hk
  obtain ⟨hz0, -, hS⟩ := hM
  obtain ⟨t2, a1, b1⟩ := kk v M' T'.heap (locs ++ L) hp ⟨hz0, by rw [e1]; exact hH, Nat.le_trans hS.1 (by rw [e1]; exact hz), fun q h1 h2 => by rw [e1, hk q (Nat.lt_of_lt_of_le h1 hS.1) h2]; exact hS.2.1 q h1 h2, fun q hq => by
    rcases List.mem_append.mp hq with h | h
    · exact hS.2.2 q h
    · exact hL q h⟩ T' rfl X'
  exact ⟨t2, st t2 a1, b1⟩
theorem mw_V (F : mw_F p m meth c cc nL s args own G) (hC : mw_C l G y bytes maxL ret rm M (.ref b :: As) P) (hB : mw_B y bytes maxL ret n) (hI : Cond.instanceMethod y ∈ mw_tb) (hs : Cond.selects y.cls y y ∈ mw_tb) (hl : Cond.methodLink own index y ∈ mw_tb) (hM : mw_S G M s.heap H locs) {ci : Nat} {fs : List Value} {T : u_T} {N : Nat} (he : M b = some (r, .inr (ci, fs))) (hc : vwCl[ci]? = some (y.cls, T, N)) (hn : As.length = n) (hsz : ls.size = nL) (hst : st0 = As.reverse ++ .ref b :: rest) (hw : (rest.map fun v => v.category).sum ≤ 8) (hdg : decode cc pc = .ok (.invokevirtual index, 3))
    (hR : (rm.frames + 1 ≤ R.frames ∧ 8 + (maxL + 11) + rm.locals ≤ R.locals) ∧ cells + rm.cells ≤ R.cells ∧ slots + rm.slots ≤ R.slots)
    (kk : ∀ (v : Option Value) (M' : mw_M) (H1 : Heap) (locs1 : List Loc), P v M' → mw_S G M' s.heap H1 locs1 → W p l e R s m args below meth c H1 locs1 (cells + rm.cells) (slots + rm.slots) Q (F0 m (pc + 3) ls (v.toList ++ rest))) : W p l e R s m args below meth c H locs cells slots Q (F0 m pc ls st0) := by
  obtain ⟨hx, hb, hml, hown, hts, ⟨hK, hAO⟩, -⟩ := F
  have hM' := hM
  obtain ⟨hz, hH, hS⟩ := hM
  have hH' := hH
  obtain ⟨-, ws, hP, hD, hm⟩ := hH
  obtain ⟨q0, hq⟩ := List.getElem?_of_mem (hm b r _ he)
  refine mw_call (va_runV (As := As) (rest := rest) ⟨hx, hb, hml, hown, hts⟩ hC ⟨callB_of n hts (mw_gi hB.1) rfl rfl rfl (hts _ hB.2.1) (hts _ hl) hB.2.2 hR.1, hts _ hI, hts _ hs⟩ ⟨mw_bl, va_recv hK hP hc hq, fun U hU hW => ⟨rfl, by rw [hU]; exact hH', mw_Km hW.alike ⟨hK, hAO⟩⟩⟩ rfl hn hsz hst (lv_room hw) hdg hR.2) hM' kk
theorem mw_I (F : mw_F p m meth c cc nL s args own G) (hC : mw_C l G y bytes maxL none rm M (.ref b :: As) P) (hB : mw_B y bytes maxL none n) (hy1 : y.name = "<init>") (hI : Cond.instanceMethod y ∈ mw_tb) (hl : Cond.methodLink own index y ∈ mw_tb) (hM : mw_S G M s.heap H locs) (hn : As.length = n) (hsz : ls.size = nL) (hst : st0 = As.reverse ++ .ref b :: rest) (hw : (rest.map fun v => v.category).sum ≤ 8) (hdg : decode cc pc = .ok (.invokespecial index, 3))
    (hR : (rm.frames + 1 ≤ R.frames ∧ 8 + (maxL + 11) + rm.locals ≤ R.locals) ∧ cells + rm.cells ≤ R.cells ∧ slots + rm.slots ≤ R.slots)
    (kk : ∀ (v : Option Value) (M' : mw_M) (H1 : Heap) (locs1 : List Loc), P v M' → mw_S G M' s.heap H1 locs1 → W p l e R s m args below meth c H1 locs1 (cells + rm.cells) (slots + rm.slots) Q (F0 m (pc + 3) ls (v.toList ++ rest))) : W p l e R s m args below meth c H locs cells slots Q (F0 m pc ls st0) := by
  obtain ⟨hx, hb, hml, hown, hts, ⟨hK, hAO⟩, -⟩ := F
  exact mw_call (va_runI (As := As) (rest := rest) ⟨hx, hb, hml, hown, hts⟩ hC ⟨callB_of n hts (mw_gi hB.1) rfl rfl rfl (hts _ hB.2.1) (hts _ hl) hB.2.2 hR.1, hy1, hts _ hI⟩ ⟨mw_bl, fun U hU hW => ⟨rfl, by rw [hU]; exact hM.2.1, mw_Km hW.alike ⟨hK, hAO⟩⟩⟩ rfl hn hsz hst (lv_room hw) hdg hR.2) hM kk
theorem mw_Z (F : mw_F p m meth c cc nL s args own G) (hC : mw_C l G y bytes maxL ret rm M As P) (hB : mw_B y bytes maxL ret n) (hI : Cond.static y ∈ mw_tb) (hl : Cond.methodLink own index y ∈ mw_tb) (hM : mw_S G M s.heap H locs) (hn : As.length = n) (hsz : ls.size = nL) (hst : st0 = As.reverse ++ rest) (hw : (rest.map fun v => v.category).sum ≤ 8) (hdg : decode cc pc = .ok (.invokestatic index, 3))
    (hR : (rm.frames + 1 ≤ R.frames ∧ 8 + (maxL + 11) + rm.locals ≤ R.locals) ∧ cells + rm.cells ≤ R.cells ∧ slots + rm.slots ≤ R.slots)
    (kk : ∀ (v : Option Value) (M' : mw_M) (H1 : Heap) (locs1 : List Loc), P v M' → mw_S G M' s.heap H1 locs1 → W p l e R s m args below meth c H1 locs1 (cells + rm.cells) (slots + rm.slots) Q (F0 m (pc + 3) ls (v.toList ++ rest))) : W p l e R s m args below meth c H locs cells slots Q (F0 m pc ls st0) := by
  obtain ⟨hx, hb, hml, hown, hts, ⟨hK, hAO⟩, -⟩ := F
  exact mw_call (va_runS (As := As) (rest := rest) ⟨hx, hb, hml, hown, hts⟩ hC ⟨callB_of n hts (mw_gi hB.1) rfl rfl rfl (hts _ hB.2.1) (hts _ hl) hB.2.2 hR.1, hts _ hI⟩ ⟨mw_bl, fun U hU hW => ⟨rfl, by rw [hU]; exact hM.2.1, mw_Km hW.alike ⟨hK, hAO⟩⟩⟩ rfl hn hsz hst (lv_room hw) hdg hR.2) hM kk
theorem mw_Vp {v0 : Value} {M1 : mw_M} (F : mw_F p m meth c cc nL s args own G) (hC : mw_C l G y bytes maxL ret rm M (.ref b :: As) (mp_ (some v0) M1)) (hB : mw_B y bytes maxL ret n) (hI : Cond.instanceMethod y ∈ mw_tb) (hs : Cond.selects y.cls y y ∈ mw_tb) (hl : Cond.methodLink own index y ∈ mw_tb) (hM : mw_S G M s.heap H locs) {ci : Nat} {fs : List Value} {T : u_T} {N : Nat} (he : M b = some (r, .inr (ci, fs))) (hc : vwCl[ci]? = some (y.cls, T, N)) (hn : As.length = n) (hsz : ls.size = nL) (hst : st0 = As.reverse ++ .ref b :: rest) (hw : (rest.map fun v => v.category).sum ≤ 8) (hdg : decode cc pc = .ok (.invokevirtual index, 3))
    (hR : (rm.frames + 1 ≤ R.frames ∧ 8 + (maxL + 11) + rm.locals ≤ R.locals) ∧ cells + rm.cells ≤ R.cells ∧ slots + rm.slots ≤ R.slots) (h0 : rm.cells = 0 ∧ rm.slots = 0)
    (kk : ∀ (H1 : Heap) (locs1 : List Loc), mw_S G M1 s.heap H1 locs1 → W p l e R s m args below meth c H1 locs1 cells slots Q (F0 m (pc + 3) ls (v0 :: rest))) : W p l e R s m args below meth c H locs cells slots Q (F0 m pc ls st0) := by
  refine mw_V F hC hB hI hs hl hM he hc hn hsz hst hw hdg hR (fun v M' H1 locs1 hp hM1 => ?_)
  obtain ⟨hv, hq⟩ := hp
  rw [h0.1, h0.2, hv]
  rw [hq] at hM1
  exact kk H1 locs1 hM1
theorem mw_Zp {v0 : Value} {M1 : mw_M} (F : mw_F p m meth c cc nL s args own G) (hC : mw_C l G y bytes maxL ret rm M As (mp_ (some v0) M1)) (hB : mw_B y bytes maxL ret n) (hI : Cond.static y ∈ mw_tb) (hl : Cond.methodLink own index y ∈ mw_tb) (hM : mw_S G M s.heap H locs) (hn : As.length = n) (hsz : ls.size = nL) (hst : st0 = As.reverse ++ rest) (hw : (rest.map fun v => v.category).sum ≤ 8) (hdg : decode cc pc = .ok (.invokestatic index, 3))
    (hR : (rm.frames + 1 ≤ R.frames ∧ 8 + (maxL + 11) + rm.locals ≤ R.locals) ∧ cells + rm.cells ≤ R.cells ∧ slots + rm.slots ≤ R.slots) (h0 : rm.cells = 0 ∧ rm.slots = 0)
    (kk : ∀ (H1 : Heap) (locs1 : List Loc), mw_S G M1 s.heap H1 locs1 → W p l e R s m args below meth c H1 locs1 cells slots Q (F0 m (pc + 3) ls (v0 :: rest))) : W p l e R s m args below meth c H locs cells slots Q (F0 m pc ls st0) := by
  refine mw_Z F hC hB hI hl hM hn hsz hst hw hdg hR (fun v M' H1 locs1 hp hM1 => ?_)
  obtain ⟨hv, hq⟩ := hp
  rw [h0.1, h0.2, hv]
  rw [hq] at hM1
  exact kk H1 locs1 hM1
theorem mw_Ip {M1 : mw_M} (F : mw_F p m meth c cc nL s args own G) (hC : mw_C l G y bytes maxL none rm M (.ref b :: As) (mp_ none M1)) (hB : mw_B y bytes maxL none n) (hy1 : y.name = "<init>") (hI : Cond.instanceMethod y ∈ mw_tb) (hl : Cond.methodLink own index y ∈ mw_tb) (hM : mw_S G M s.heap H locs) (hn : As.length = n) (hsz : ls.size = nL) (hst : st0 = As.reverse ++ .ref b :: rest) (hw : (rest.map fun v => v.category).sum ≤ 8) (hdg : decode cc pc = .ok (.invokespecial index, 3))
    (hR : (rm.frames + 1 ≤ R.frames ∧ 8 + (maxL + 11) + rm.locals ≤ R.locals) ∧ cells + rm.cells ≤ R.cells ∧ slots + rm.slots ≤ R.slots) (h0 : rm.cells = 0 ∧ rm.slots = 0)
    (kk : ∀ (H1 : Heap) (locs1 : List Loc), mw_S G M1 s.heap H1 locs1 → W p l e R s m args below meth c H1 locs1 cells slots Q (F0 m (pc + 3) ls rest)) : W p l e R s m args below meth c H locs cells slots Q (F0 m pc ls st0) := by
  refine mw_I F hC hB hy1 hI hl hM hn hsz hst hw hdg hR (fun v M' H1 locs1 hp hM1 => ?_)
  obtain ⟨hv, hq⟩ := hp
  rw [h0.1, h0.2, hv]
  rw [hq] at hM1
  exact kk H1 locs1 hM1
theorem mw_Wp {M1 : mw_M} (F : mw_F p m meth c cc nL s args own G) (hC : mw_C l G y bytes maxL ret rm M (.ref b :: As) (mp_ none M1)) (hB : mw_B y bytes maxL ret n) (hI : Cond.instanceMethod y ∈ mw_tb) (hs : Cond.selects y.cls y y ∈ mw_tb) (hl : Cond.methodLink own index y ∈ mw_tb) (hM : mw_S G M s.heap H locs) {ci : Nat} {fs : List Value} {T : u_T} {N : Nat} (he : M b = some (r, .inr (ci, fs))) (hc : vwCl[ci]? = some (y.cls, T, N)) (hn : As.length = n) (hsz : ls.size = nL) (hst : st0 = As.reverse ++ .ref b :: rest) (hw : (rest.map fun v => v.category).sum ≤ 8) (hdg : decode cc pc = .ok (.invokevirtual index, 3))
    (hR : (rm.frames + 1 ≤ R.frames ∧ 8 + (maxL + 11) + rm.locals ≤ R.locals) ∧ cells + rm.cells ≤ R.cells ∧ slots + rm.slots ≤ R.slots) (h0 : rm.cells = 0 ∧ rm.slots = 0)
    (kk : ∀ (H1 : Heap) (locs1 : List Loc), mw_S G M1 s.heap H1 locs1 → W p l e R s m args below meth c H1 locs1 cells slots Q (F0 m (pc + 3) ls rest)) : W p l e R s m args below meth c H locs cells slots Q (F0 m pc ls st0) := by
  refine mw_V F hC hB hI hs hl hM he hc hn hsz hst hw hdg hR (fun v M' H1 locs1 hp hM1 => ?_)
  obtain ⟨hv, hq⟩ := hp
  rw [h0.1, h0.2, hv]
  rw [hq] at hM1
  exact kk H1 locs1 hM1
theorem mw_Vl {v0 : Value} {ql : Nat} (F : mw_F p m meth c cc nL s args own G) (hC : mw_C l G y bytes maxL ret rm M (.ref b :: As) (pl_ G ql (some v0) M)) (hB : mw_B y bytes maxL ret n) (hI : Cond.instanceMethod y ∈ mw_tb) (hs : Cond.selects y.cls y y ∈ mw_tb) (hl : Cond.methodLink own index y ∈ mw_tb) (hM : mw_S G M s.heap H locs) {ci : Nat} {fs : List Value} {T : u_T} {N : Nat} (he : M b = some (r, .inr (ci, fs))) (hc : vwCl[ci]? = some (y.cls, T, N)) (hn : As.length = n) (hsz : ls.size = nL) (hst : st0 = As.reverse ++ .ref b :: rest) (hw : (rest.map fun v => v.category).sum ≤ 8) (hdg : decode cc pc = .ok (.invokevirtual index, 3))
    (hR : (rm.frames + 1 ≤ R.frames ∧ 8 + (maxL + 11) + rm.locals ≤ R.locals) ∧ cells + rm.cells ≤ R.cells ∧ slots + rm.slots ≤ R.slots) (h0 : rm.cells = 0 ∧ rm.slots = 0)
    (kk : ∀ (lp' : Nat → Int32) (H1 : Heap) (locs1 : List Loc), mw_S G (mw_up M ql ((3, 0), aI_ G 40 lp')) s.heap H1 locs1 → W p l e R s m args below meth c H1 locs1 cells slots Q (F0 m (pc + 3) ls (v0 :: rest))) : W p l e R s m args below meth c H locs cells slots Q (F0 m pc ls st0) := by
  refine mw_V F hC hB hI hs hl hM he hc hn hsz hst hw hdg hR (fun v M' H1 locs1 hp hM1 => ?_)
  obtain ⟨hv, lp', hq⟩ := hp
  rw [h0.1, h0.2, hv]
  rw [hq] at hM1
  exact kk lp' H1 locs1 hM1
theorem mw_Vg {v0 : Value} {K : mw_M → Prop} (F : mw_F p m meth c cc nL s args own G) (hC : mw_C l G y bytes maxL ret rm M (.ref b :: As) (fun v M' => v = some v0 ∧ K M')) (hB : mw_B y bytes maxL ret n) (hI : Cond.instanceMethod y ∈ mw_tb) (hs : Cond.selects y.cls y y ∈ mw_tb) (hl : Cond.methodLink own index y ∈ mw_tb) (hM : mw_S G M s.heap H locs) {ci : Nat} {fs : List Value} {T : u_T} {N : Nat} (he : M b = some (r, .inr (ci, fs))) (hc : vwCl[ci]? = some (y.cls, T, N)) (hn : As.length = n) (hsz : ls.size = nL) (hst : st0 = As.reverse ++ .ref b :: rest) (hw : (rest.map fun v => v.category).sum ≤ 8) (hdg : decode cc pc = .ok (.invokevirtual index, 3))
    (hR : (rm.frames + 1 ≤ R.frames ∧ 8 + (maxL + 11) + rm.locals ≤ R.locals) ∧ cells + rm.cells ≤ R.cells ∧ slots + rm.slots ≤ R.slots)
    (kk : ∀ (M' : mw_M) (H1 : Heap) (locs1 : List Loc), K M' → mw_S G M' s.heap H1 locs1 → W p l e R s m args below meth c H1 locs1 (cells + rm.cells) (slots + rm.slots) Q (F0 m (pc + 3) ls (v0 :: rest))) : W p l e R s m args below meth c H locs cells slots Q (F0 m pc ls st0) := by
  refine mw_V F hC hB hI hs hl hM he hc hn hsz hst hw hdg hR (fun v M' H1 locs1 hp hM1 => ?_)
  obtain ⟨hv, hq⟩ := hp
  rw [hv]
  exact kk M' H1 locs1 hq hM1
theorem mw_Wg {K : mw_M → Prop} (F : mw_F p m meth c cc nL s args own G) (hC : mw_C l G y bytes maxL ret rm M (.ref b :: As) (fun v M' => v = none ∧ K M')) (hB : mw_B y bytes maxL ret n) (hI : Cond.instanceMethod y ∈ mw_tb) (hs : Cond.selects y.cls y y ∈ mw_tb) (hl : Cond.methodLink own index y ∈ mw_tb) (hM : mw_S G M s.heap H locs) {ci : Nat} {fs : List Value} {T : u_T} {N : Nat} (he : M b = some (r, .inr (ci, fs))) (hc : vwCl[ci]? = some (y.cls, T, N)) (hn : As.length = n) (hsz : ls.size = nL) (hst : st0 = As.reverse ++ .ref b :: rest) (hw : (rest.map fun v => v.category).sum ≤ 8) (hdg : decode cc pc = .ok (.invokevirtual index, 3))
    (hR : (rm.frames + 1 ≤ R.frames ∧ 8 + (maxL + 11) + rm.locals ≤ R.locals) ∧ cells + rm.cells ≤ R.cells ∧ slots + rm.slots ≤ R.slots)
    (kk : ∀ (M' : mw_M) (H1 : Heap) (locs1 : List Loc), K M' → mw_S G M' s.heap H1 locs1 → W p l e R s m args below meth c H1 locs1 (cells + rm.cells) (slots + rm.slots) Q (F0 m (pc + 3) ls rest)) : W p l e R s m args below meth c H locs cells slots Q (F0 m pc ls st0) := by
  refine mw_V F hC hB hI hs hl hM he hc hn hsz hst hw hdg hR (fun v M' H1 locs1 hp hM1 => ?_)
  obtain ⟨hv, hq⟩ := hp
  rw [hv]
  exact kk M' H1 locs1 hq hM1
theorem mw_Ig {K : mw_M → Prop} (F : mw_F p m meth c cc nL s args own G) (hC : mw_C l G y bytes maxL none rm M (.ref b :: As) (fun v M' => v = none ∧ K M')) (hB : mw_B y bytes maxL none n) (hy1 : y.name = "<init>") (hI : Cond.instanceMethod y ∈ mw_tb) (hl : Cond.methodLink own index y ∈ mw_tb) (hM : mw_S G M s.heap H locs) (hn : As.length = n) (hsz : ls.size = nL) (hst : st0 = As.reverse ++ .ref b :: rest) (hw : (rest.map fun v => v.category).sum ≤ 8) (hdg : decode cc pc = .ok (.invokespecial index, 3))
    (hR : (rm.frames + 1 ≤ R.frames ∧ 8 + (maxL + 11) + rm.locals ≤ R.locals) ∧ cells + rm.cells ≤ R.cells ∧ slots + rm.slots ≤ R.slots)
    (kk : ∀ (M' : mw_M) (H1 : Heap) (locs1 : List Loc), K M' → mw_S G M' s.heap H1 locs1 → W p l e R s m args below meth c H1 locs1 (cells + rm.cells) (slots + rm.slots) Q (F0 m (pc + 3) ls rest)) : W p l e R s m args below meth c H locs cells slots Q (F0 m pc ls st0) := by
  refine mw_I F hC hB hy1 hI hl hM hn hsz hst hw hdg hR (fun v M' H1 locs1 hp hM1 => ?_)
  obtain ⟨hv, hq⟩ := hp
  rw [hv]
  exact kk M' H1 locs1 hq hM1
theorem mw_oi (F : mw_F p m meth c cc nL s args own G) (hl : Cond.methodLink own index objectInit ∈ mw_tb) (hsz : ls.size = nL) (hdg : decode cc pc = .ok (.invokespecial index, 3)) (hR : 1 ≤ R.frames ∧ 2 * (F0 m pc ls [Value.ref a]).monitorRoom + (([] : List Value).map fun v => v.category).sum + 12 ≤ R.locals)
    (kk : W p l e R s m args below meth c H locs cells slots Q (F0 m (pc + 3) ls [])) : W p l e R s m args below meth c H locs cells slots Q (F0 m pc ls [.ref a]) := by
  obtain ⟨hx, hb, hml, hown, hts, -⟩ := F
  exact W.objInit hx hb hown (hts _ hl) (hts _ ki_obj) (hts _ kb_obj) rfl (by rw [hml]; exact hsz) rfl hdg hR.1 hR.2 kk
theorem mw_nai (F : mw_F p m meth c cc nL s args own G) (r : Nat × Nat) (harr : Cond.arrayClass .int ∈ mw_tb) {n : Int32} {N : Nat} (hn : ¬ n < 0) (hN : n.toNatClampNeg = N) (hby : N * componentBytes .int ≤ 536870912) (hM : mw_S G M s.heap H locs) (hcs : cells + 1 ≤ R.cells ∧ slots + N ≤ R.slots) (hdg : decode cc pc = .ok (.newarray .int, 2))
    (kk : ∀ (q : Nat) (H1 : Heap), M q = none → mw_S G (mw_up M q (r, aI_ G N (fun _ => 0))) s.heap H1 locs → W p l e R s m args below meth c H1 locs (cells + 1) (slots + N) Q (F0 m (pc + 2) ls (.ref q :: rest))) : W p l e R s m args below meth c H locs cells slots Q (F0 m pc ls (.int n :: rest)) := by
  obtain ⟨hx, hb, -, hown, hts, ⟨hK, hAO⟩, -⟩ := F
  obtain ⟨hz, ⟨-, ws, hP, hD, hm⟩, hS⟩ := hM
  refine va_newa (atype := .int) (ty := .int) (a0 := (N, .inl (fun _ => 0))) hx hb (hts _ harr) rfl hK hP hD hS (fun q h => Nat.le_trans hz h) (fun _ => rfl) hn hN hby hcs.1 hcs.2 hdg (fun q cA H1 hK1 hP1 hD1 hS1 => ?_)
  have e1 : s.vm.findClass ("[" ++ FieldType.int.toString) = some cA := (hK1.2 4 (cA, .int) rfl).2
  have e2 : s.vm.findClass ("[" ++ FieldType.int.toString) = some G.2.2.1 := (hK.2 0 (G.2.2.1, .int) rfl).2
  obtain rfl : cA = G.2.2.1 := Option.some.inj (e1.symm.trans e2)
  obtain ⟨h1, h2⟩ := mw_mnew (r0 := r) hm hD1
  exact kk q H1 h1 ⟨hz, ⟨Nat.le_trans hz hS1.1, _, hP1, hD1, h2⟩, hS1⟩
theorem mw_naz (F : mw_F p m meth c cc nL s args own G) (r : Nat × Nat) (harr : Cond.arrayClass .boolean ∈ mw_tb) {n : Int32} {N : Nat} (hn : ¬ n < 0) (hN : n.toNatClampNeg = N) (hby : N * componentBytes .boolean ≤ 536870912) (hM : mw_S G M s.heap H locs) (hcs : cells + 1 ≤ R.cells ∧ slots + N ≤ R.slots) (hdg : decode cc pc = .ok (.newarray .boolean, 2))
    (kk : ∀ (q : Nat) (H1 : Heap), M q = none → mw_S G (mw_up M q (r, aZ_ G N (fun _ => 0))) s.heap H1 locs → W p l e R s m args below meth c H1 locs (cells + 1) (slots + N) Q (F0 m (pc + 2) ls (.ref q :: rest))) : W p l e R s m args below meth c H locs cells slots Q (F0 m pc ls (.int n :: rest)) := by
  obtain ⟨hx, hb, -, hown, hts, ⟨hK, hAO⟩, -⟩ := F
  obtain ⟨hz, ⟨-, ws, hP, hD, hm⟩, hS⟩ := hM
  refine va_newa (atype := .boolean) (ty := .boolean) (a0 := (N, .inl (fun _ => 0))) hx hb (hts _ harr) rfl hK hP hD hS (fun q h => Nat.le_trans hz h) (fun _ => rfl) hn hN hby hcs.1 hcs.2 hdg (fun q cA H1 hK1 hP1 hD1 hS1 => ?_)
  have e1 : s.vm.findClass ("[" ++ FieldType.boolean.toString) = some cA := (hK1.2 4 (cA, .boolean) rfl).2
  have e2 : s.vm.findClass ("[" ++ FieldType.boolean.toString) = some G.2.2.2.1 := (hK.2 1 (G.2.2.2.1, .boolean) rfl).2
  obtain rfl : cA = G.2.2.2.1 := Option.some.inj (e1.symm.trans e2)
  obtain ⟨h1, h2⟩ := mw_mnew (r0 := r) hm hD1
  exact kk q H1 h1 ⟨hz, ⟨Nat.le_trans hz hS1.1, _, hP1, hD1, h2⟩, hS1⟩
theorem mw_naq (F : mw_F p m meth c cc nL s args own G) (r : Nat × Nat) (t0 : Nat) {C : String} {cC : ClassId} (ht0 : t0 < 4) (ht : (mw_ty G)[t0]? = some (cC, .object C)) (hover : ∀ U : State, va_AO RC U ∧ va_AO RN U → va_AO C U) (hcl : Cond.classLink own index C ∈ mw_tb) {n : Int32} {N : Nat} (hn : ¬ n < 0) (hN : n.toNatClampNeg = N) (hby : N * 4 ≤ 536870912) (hM : mw_S G M s.heap H locs) (hcs : cells + 1 ≤ R.cells ∧ slots + N ≤ R.slots) (hdg : decode cc pc = .ok (.anewarray index, 3))
    (kk : ∀ (q : Nat) (H1 : Heap), M q = none → mw_S G (mw_up M q (r, .inl (cC, N, .inr (.inr (.inr (.inr (fun _ => none))))))) s.heap H1 locs → W p l e R s m args below meth c H1 locs (cells + 1) (slots + N) Q (F0 m (pc + 3) ls (.ref q :: rest))) : W p l e R s m args below meth c H locs cells slots Q (F0 m pc ls (.int n :: rest)) := by
  obtain ⟨hx, hb, -, hown, hts, ⟨hK, hAO⟩, -⟩ := F
  obtain ⟨hz, ⟨-, ws, hP, hD, hm⟩, hS⟩ := hM
  refine va_newq hx hb hown (hts _ hcl) (hover s hAO) hK hP hD hS (fun q h => Nat.le_trans hz h) hn hN hby hcs.1 hcs.2 hdg (fun q cA H1 hK1 hP1 hD1 hS1 => ?_)
  obtain ⟨kA, comp, -, -, -, e1⟩ := (hK1.2 4 (cA, .object C) rfl).2
  obtain ⟨kB, comp2, -, -, -, e2⟩ := (hK.2 t0 (cC, .object C) ht).2
  obtain rfl : cA = cC := Option.some.inj (e1.symm.trans e2)
  obtain ⟨h1, h2⟩ := mw_mnew (r0 := r) hm hD1
  exact kk q H1 h1 ⟨hz, ⟨Nat.le_trans hz hS1.1, _, hP1, hD1, h2⟩, hS1⟩
theorem mw_of {av : List Value} (hy : plainName y.cls = true) (hlen : (lg_sl av).length ≤ maxL)
    (body : ∀ (p : Program) (e : Env) (s : State) (m : MethodId) (below : List Frame) (meth : Method) (c : Code), mw_F p m meth c bytes maxL s av.toArray y.cls G → meth.sig.returnType = ret → meth.name = y.name → mw_S G M s.heap s.heap [] → ∀ ls : Array Slot, lv_has ls maxL (lv_args 0 av) →
      W p l e rm s m av.toArray below meth c s.heap [] 0 0 (MQ below (mw_Q G P) av.toArray s rm.cells rm.slots (mw_A G)) (F0 m 0 ls [])) : mw_C l G y bytes maxL ret rm M av P := by
  refine Met.ofW (cc := bytes) (maxL := maxL) (ret := ret) hy rfl ?_
  intro p e s m args below meth c s₁ B hml hv
  obtain ⟨rfl, hH, hK⟩ := hv
  have hts := atoms_spec (ws := Cond.code y bytes maxL ret :: mw_tb) B.pre
  rw [lg_entry_eq]
  exact body p e s m below meth c ⟨B.exec, B.bytes, hml, findClass_of_methodNamed B.named, fun w h => hts w (List.mem_cons_of_mem _ h), hK, B.notSynchronized⟩ B.returns (name_of_methodNamed B.named B.method).1 ⟨hH.1, hH, va_S.rf⟩ _ (lv_entry av hlen)
theorem mr_i {mc ms : Nat} {v : Int32} (F : mw_F p m meth c cc nL s args own G) (hr : meth.sig.returnType = some .int) (hM : mw_S G M s.heap H locs) (hP : P (some (.int v)) M) (hdg : decode cc pc = .ok (.ireturn, 1)) (hcs : cells ≤ mc ∧ slots ≤ ms) : W p l e R s m args below meth c H locs cells slots (MQ below (mw_Q G P) args s mc ms (mw_A G)) (F0 m pc ls [.int v]) := by
  refine W.widen hcs.1 hcs.2 ?_
  obtain ⟨hx, hb, -, -, -, -, hlk⟩ := F
  obtain ⟨-, hH, hS⟩ := hM
  exact W.iret hx hb hr (fun t ht hW => ⟨⟨_, M, rfl, hP, by rw [ht]; exact hH⟩, hS.F ht⟩) hS.2.2 hdg hlk
theorem mr_z {mc ms : Nat} {v : Bool} (F : mw_F p m meth c cc nL s args own G) (hr : meth.sig.returnType = some .boolean) (hM : mw_S G M s.heap H locs) (hP : P (some (.int (mb_i v))) M) (hdg : decode cc pc = .ok (.ireturn, 1)) (hcs : cells ≤ mc ∧ slots ≤ ms) : W p l e R s m args below meth c H locs cells slots (MQ below (mw_Q G P) args s mc ms (mw_A G)) (F0 m pc ls [.int (mb_i v)]) := by
  refine W.widen hcs.1 hcs.2 ?_
  obtain ⟨hx, hb, -, -, -, -, hlk⟩ := F
  obtain ⟨-, hH, hS⟩ := hM
  exact W.zret hx hb hr (mb_narrow v) (fun t ht hW => ⟨⟨_, M, rfl, hP, by rw [ht]; exact hH⟩, hS.F ht⟩) hS.2.2 hdg hlk
theorem mr_a {mc ms : Nat} {o : Option Nat} {nm : String} (F : mw_F p m meth c cc nL s args own G) (hr : meth.sig.returnType = some (.object nm)) (hM : mw_S G M s.heap H locs) (hP : P (some (va_rf o)) M) (hdg : decode cc pc = .ok (.areturn, 1)) (hcs : cells ≤ mc ∧ slots ≤ ms) : W p l e R s m args below meth c H locs cells slots (MQ below (mw_Q G P) args s mc ms (mw_A G)) (F0 m pc ls [va_rf o]) := by
  refine W.widen hcs.1 hcs.2 ?_
  obtain ⟨hx, hb, -, -, -, -, hlk⟩ := F
  obtain ⟨-, hH, hS⟩ := hM
  exact W.aret hx hb hr (Or.inl ⟨_, rfl⟩) (va_rf_or o) (fun t ht hW => ⟨⟨_, M, rfl, hP, by rw [ht]; exact hH⟩, hS.F ht⟩) hS.2.2 hdg hlk
theorem mr_v {mc ms : Nat} (F : mw_F p m meth c cc nL s args own G) (hr : meth.sig.returnType = none) (hM : mw_S G M s.heap H locs) (hP : P none M) (hdg : decode cc pc = .ok (.return_, 1)) (hcs : cells ≤ mc ∧ slots ≤ ms) : W p l e R s m args below meth c H locs cells slots (MQ below (mw_Q G P) args s mc ms (mw_A G)) (F0 m pc ls []) := by
  refine W.widen hcs.1 hcs.2 ?_
  obtain ⟨hx, hb, -, -, -, -, hlk⟩ := F
  obtain ⟨-, hH, hS⟩ := hM
  exact W.vret hx hb hr (fun t ht hW => ⟨⟨_, M, rfl, hP, by rw [ht]; exact hH⟩, hS.F ht⟩) hS.2.2 hdg hlk
end MW
end
section
section GF
variable {p : Program} {l : Launch} {e : Env} {R : Room} {s : State} {m : MethodId} {args : Array Value} {below : List Frame} {meth : Method} {c : Code} {H : Heap} {locs : List Loc} {cells slots : Nat} {Q : State → Prop}
variable {cc : ByteArray} {pc nL : Nat} {ls : Array Slot} {rest : List Value} {G : mw_G} {M : mw_M} {a : Nat} {r : Nat × Nat}
theorem gf_C_15 (F : mw_F p m meth c cc nL s args RC G) {fs : List Value} {v : Value} (hM : mw_S G M s.heap H locs) (he : M a = some (r, .inr (ciC, fs))) (hv : fs[1]? = some v) (hdg : decode cc pc = .ok (.getfield 15, 3)) (kk : W p l e R s m args below meth c H locs cells slots Q (F0 m (pc + 3) ls (v :: rest))) : W p l e R s m args below meth c H locs cells slots Q (F0 m pc ls (.ref a :: rest)) := mw_get F iC rfl 1 (by decide) kf_C_15 rfl hM he hv hdg kk
theorem pf_C_15 (F : mw_F p m meth c cc nL s args RC G) (hin : meth.name = "<init>") {o : Option Nat} {fs : List Value} (hM : mw_S G M s.heap H locs) (he : M a = some (r, .inr (ciC, fs))) (hl : 1 < fs.length) (hdg : decode cc pc = .ok (.putfield 15, 3)) (kk : ∀ (H1 : Heap) (locs1 : List Loc), mw_S G (mw_up M a (r, .inr (ciC, fs.set 1 (va_rf o)))) s.heap H1 locs1 → W p l e R s m args below meth c H1 locs1 cells slots Q (F0 m (pc + 3) ls rest)) : W p l e R s m args below meth c H locs cells slots Q (F0 m pc ls (va_rf o :: .ref a :: rest)) := mw_put (ty := (.object "MemberFinder$ClassInfo")) F iC tC tC_ok nC rfl 1 (by decide) kf_C_15 rfl (Or.inr ⟨rfl, hin, rfl⟩) (by decide +kernel) (by cases o <;> rfl) (by cases o <;> rfl) hM he hl hdg kk
theorem pf_C_19 (F : mw_F p m meth c cc nL s args RC G) (hin : meth.name = "<init>") {v : Int32} {fs : List Value} (hM : mw_S G M s.heap H locs) (he : M a = some (r, .inr (ciC, fs))) (hl : 2 < fs.length) (hdg : decode cc pc = .ok (.putfield 19, 3)) (kk : ∀ (H1 : Heap) (locs1 : List Loc), mw_S G (mw_up M a (r, .inr (ciC, fs.set 2 (.int v)))) s.heap H1 locs1 → W p l e R s m args below meth c H1 locs1 cells slots Q (F0 m (pc + 3) ls rest)) : W p l e R s m args below meth c H locs cells slots Q (F0 m pc ls (.int v :: .ref a :: rest)) := mw_put (ty := .int) F iC tC tC_ok nC rfl 2 (by decide) kf_C_19 rfl (Or.inr ⟨rfl, hin, rfl⟩) (by decide +kernel) rfl rfl hM he hl hdg kk
theorem gf_C_22 (F : mw_F p m meth c cc nL s args RC G) {fs : List Value} {v : Value} (hM : mw_S G M s.heap H locs) (he : M a = some (r, .inr (ciC, fs))) (hv : fs[3]? = some v) (hdg : decode cc pc = .ok (.getfield 22, 3)) (kk : W p l e R s m args below meth c H locs cells slots Q (F0 m (pc + 3) ls (v :: rest))) : W p l e R s m args below meth c H locs cells slots Q (F0 m pc ls (.ref a :: rest)) := mw_get F iC rfl 3 (by decide) kf_C_22 rfl hM he hv hdg kk
theorem pf_C_22 (F : mw_F p m meth c cc nL s args RC G) {o : Option Nat} {fs : List Value} (hM : mw_S G M s.heap H locs) (he : M a = some (r, .inr (ciC, fs))) (hl : 3 < fs.length) (hdg : decode cc pc = .ok (.putfield 22, 3)) (kk : ∀ (H1 : Heap) (locs1 : List Loc), mw_S G (mw_up M a (r, .inr (ciC, fs.set 3 (va_rf o)))) s.heap H1 locs1 → W p l e R s m args below meth c H1 locs1 cells slots Q (F0 m (pc + 3) ls rest)) : W p l e R s m args below meth c H locs cells slots Q (F0 m pc ls (va_rf o :: .ref a :: rest)) := mw_put (ty := (.object "MemberFinder$MemberInfo")) F iC tC tC_ok nC rfl 3 (by decide) kf_C_22 rfl (Or.inl rfl) (by decide +kernel) (by cases o <;> rfl) (by cases o <;> rfl) hM he hl hdg kk
theorem gf_C_26 (F : mw_F p m meth c cc nL s args RC G) {fs : List Value} {v : Value} (hM : mw_S G M s.heap H locs) (he : M a = some (r, .inr (ciN, fs))) (hv : fs[1]? = some v) (hdg : decode cc pc = .ok (.getfield 26, 3)) (kk : W p l e R s m args below meth c H locs cells slots Q (F0 m (pc + 3) ls (v :: rest))) : W p l e R s m args below meth c H locs cells slots Q (F0 m pc ls (.ref a :: rest)) := mw_get F iN rfl 1 (by decide) kf_C_26 rfl hM he hv hdg kk
theorem gf_C_31 (F : mw_F p m meth c cc nL s args RC G) {fs : List Value} {v : Value} (hM : mw_S G M s.heap H locs) (he : M a = some (r, .inr (ciN, fs))) (hv : fs[2]? = some v) (hdg : decode cc pc = .ok (.getfield 31, 3)) (kk : W p l e R s m args below meth c H locs cells slots Q (F0 m (pc + 3) ls (v :: rest))) : W p l e R s m args below meth c H locs cells slots Q (F0 m pc ls (.ref a :: rest)) := mw_get F iN rfl 2 (by decide) kf_C_31 rfl hM he hv hdg kk
theorem gf_C_34 (F : mw_F p m meth c cc nL s args RC G) {fs : List Value} {v : Value} (hM : mw_S G M s.heap H locs) (he : M a = some (r, .inr (ciN, fs))) (hv : fs[3]? = some v) (hdg : decode cc pc = .ok (.getfield 34, 3)) (kk : W p l e R s m args below meth c H locs cells slots Q (F0 m (pc + 3) ls (v :: rest))) : W p l e R s m args below meth c H locs cells slots Q (F0 m pc ls (.ref a :: rest)) := mw_get F iN rfl 3 (by decide) kf_C_34 rfl hM he hv hdg kk
theorem gf_C_37 (F : mw_F p m meth c cc nL s args RC G) {fs : List Value} {v : Value} (hM : mw_S G M s.heap H locs) (he : M a = some (r, .inr (ciN, fs))) (hv : fs[8]? = some v) (hdg : decode cc pc = .ok (.getfield 37, 3)) (kk : W p l e R s m args below meth c H locs cells slots Q (F0 m (pc + 3) ls (v :: rest))) : W p l e R s m args below meth c H locs cells slots Q (F0 m pc ls (.ref a :: rest)) := mw_get F iN rfl 8 (by decide) kf_C_37 rfl hM he hv hdg kk
theorem gf_C_44 (F : mw_F p m meth c cc nL s args RC G) {fs : List Value} {v : Value} (hM : mw_S G M s.heap H locs) (he : M a = some (r, .inr (ciN, fs))) (hv : fs[4]? = some v) (hdg : decode cc pc = .ok (.getfield 44, 3)) (kk : W p l e R s m args below meth c H locs cells slots Q (F0 m (pc + 3) ls (v :: rest))) : W p l e R s m args below meth c H locs cells slots Q (F0 m pc ls (.ref a :: rest)) := mw_get F iN rfl 4 (by decide) kf_C_44 rfl hM he hv hdg kk
theorem pf_C_9 (F : mw_F p m meth c cc nL s args RC G) (hin : meth.name = "<init>") {v : Int32} {fs : List Value} (hM : mw_S G M s.heap H locs) (he : M a = some (r, .inr (ciC, fs))) (hl : 0 < fs.length) (hdg : decode cc pc = .ok (.putfield 9, 3)) (kk : ∀ (H1 : Heap) (locs1 : List Loc), mw_S G (mw_up M a (r, .inr (ciC, fs.set 0 (.int v)))) s.heap H1 locs1 → W p l e R s m args below meth c H1 locs1 cells slots Q (F0 m (pc + 3) ls rest)) : W p l e R s m args below meth c H locs cells slots Q (F0 m pc ls (.int v :: .ref a :: rest)) := mw_put (ty := .int) F iC tC tC_ok nC rfl 0 (by decide) kf_C_9 rfl (Or.inr ⟨rfl, hin, rfl⟩) (by decide +kernel) rfl rfl hM he hl hdg kk
theorem gf_N_15 (F : mw_F p m meth c cc nL s args RN G) {fs : List Value} {v : Value} (hM : mw_S G M s.heap H locs) (he : M a = some (r, .inr (ciN, fs))) (hv : fs[1]? = some v) (hdg : decode cc pc = .ok (.getfield 15, 3)) (kk : W p l e R s m args below meth c H locs cells slots Q (F0 m (pc + 3) ls (v :: rest))) : W p l e R s m args below meth c H locs cells slots Q (F0 m pc ls (.ref a :: rest)) := mw_get F iN rfl 1 (by decide) kf_N_15 rfl hM he hv hdg kk
theorem pf_N_15 (F : mw_F p m meth c cc nL s args RN G) (hin : meth.name = "<init>") {v : Int32} {fs : List Value} (hM : mw_S G M s.heap H locs) (he : M a = some (r, .inr (ciN, fs))) (hl : 1 < fs.length) (hdg : decode cc pc = .ok (.putfield 15, 3)) (kk : ∀ (H1 : Heap) (locs1 : List Loc), mw_S G (mw_up M a (r, .inr (ciN, fs.set 1 (.int v)))) s.heap H1 locs1 → W p l e R s m args below meth c H1 locs1 cells slots Q (F0 m (pc + 3) ls rest)) : W p l e R s m args below meth c H locs cells slots Q (F0 m pc ls (.int v :: .ref a :: rest)) := mw_put (ty := .int) F iN tN tN_ok nN rfl 1 (by decide) kf_N_15 rfl (Or.inr ⟨rfl, hin, rfl⟩) (by decide +kernel) rfl rfl hM he hl hdg kk
theorem pf_N_19 (F : mw_F p m meth c cc nL s args RN G) (hin : meth.name = "<init>") {v : Int32} {fs : List Value} (hM : mw_S G M s.heap H locs) (he : M a = some (r, .inr (ciN, fs))) (hl : 2 < fs.length) (hdg : decode cc pc = .ok (.putfield 19, 3)) (kk : ∀ (H1 : Heap) (locs1 : List Loc), mw_S G (mw_up M a (r, .inr (ciN, fs.set 2 (.int v)))) s.heap H1 locs1 → W p l e R s m args below meth c H1 locs1 cells slots Q (F0 m (pc + 3) ls rest)) : W p l e R s m args below meth c H locs cells slots Q (F0 m pc ls (.int v :: .ref a :: rest)) := mw_put (ty := .int) F iN tN tN_ok nN rfl 2 (by decide) kf_N_19 rfl (Or.inr ⟨rfl, hin, rfl⟩) (by decide +kernel) rfl rfl hM he hl hdg kk
theorem pf_N_22 (F : mw_F p m meth c cc nL s args RN G) (hin : meth.name = "<init>") {v : Int32} {fs : List Value} (hM : mw_S G M s.heap H locs) (he : M a = some (r, .inr (ciN, fs))) (hl : 3 < fs.length) (hdg : decode cc pc = .ok (.putfield 22, 3)) (kk : ∀ (H1 : Heap) (locs1 : List Loc), mw_S G (mw_up M a (r, .inr (ciN, fs.set 3 (.int v)))) s.heap H1 locs1 → W p l e R s m args below meth c H1 locs1 cells slots Q (F0 m (pc + 3) ls rest)) : W p l e R s m args below meth c H locs cells slots Q (F0 m pc ls (.int v :: .ref a :: rest)) := mw_put (ty := .int) F iN tN tN_ok nN rfl 3 (by decide) kf_N_22 rfl (Or.inr ⟨rfl, hin, rfl⟩) (by decide +kernel) rfl rfl hM he hl hdg kk
theorem gf_N_25 (F : mw_F p m meth c cc nL s args RN G) {fs : List Value} {v : Value} (hM : mw_S G M s.heap H locs) (he : M a = some (r, .inr (ciN, fs))) (hv : fs[4]? = some v) (hdg : decode cc pc = .ok (.getfield 25, 3)) (kk : W p l e R s m args below meth c H locs cells slots Q (F0 m (pc + 3) ls (v :: rest))) : W p l e R s m args below meth c H locs cells slots Q (F0 m pc ls (.ref a :: rest)) := mw_get F iN rfl 4 (by decide) kf_N_25 rfl hM he hv hdg kk
theorem pf_N_25 (F : mw_F p m meth c cc nL s args RN G) (hin : meth.name = "<init>") {b : Bool} {fs : List Value} (hM : mw_S G M s.heap H locs) (he : M a = some (r, .inr (ciN, fs))) (hl : 4 < fs.length) (hdg : decode cc pc = .ok (.putfield 25, 3)) (kk : ∀ (H1 : Heap) (locs1 : List Loc), mw_S G (mw_up M a (r, .inr (ciN, fs.set 4 (.int (mb_i b))))) s.heap H1 locs1 → W p l e R s m args below meth c H1 locs1 cells slots Q (F0 m (pc + 3) ls rest)) : W p l e R s m args below meth c H locs cells slots Q (F0 m pc ls (.int (mb_i b) :: .ref a :: rest)) := mw_put (ty := .boolean) F iN tN tN_ok nN rfl 4 (by decide) kf_N_25 rfl (Or.inr ⟨rfl, hin, rfl⟩) (by decide +kernel) (mb_narrow b) (mb_fits b) hM he hl hdg kk
theorem pf_N_29 (F : mw_F p m meth c cc nL s args RN G) (hin : meth.name = "<init>") {b : Bool} {fs : List Value} (hM : mw_S G M s.heap H locs) (he : M a = some (r, .inr (ciN, fs))) (hl : 5 < fs.length) (hdg : decode cc pc = .ok (.putfield 29, 3)) (kk : ∀ (H1 : Heap) (locs1 : List Loc), mw_S G (mw_up M a (r, .inr (ciN, fs.set 5 (.int (mb_i b))))) s.heap H1 locs1 → W p l e R s m args below meth c H1 locs1 cells slots Q (F0 m (pc + 3) ls rest)) : W p l e R s m args below meth c H locs cells slots Q (F0 m pc ls (.int (mb_i b) :: .ref a :: rest)) := mw_put (ty := .boolean) F iN tN tN_ok nN rfl 5 (by decide) kf_N_29 rfl (Or.inr ⟨rfl, hin, rfl⟩) (by decide +kernel) (mb_narrow b) (mb_fits b) hM he hl hdg kk
theorem gf_N_32 (F : mw_F p m meth c cc nL s args RN G) {fs : List Value} {v : Value} (hM : mw_S G M s.heap H locs) (he : M a = some (r, .inr (ciN, fs))) (hv : fs[6]? = some v) (hdg : decode cc pc = .ok (.getfield 32, 3)) (kk : W p l e R s m args below meth c H locs cells slots Q (F0 m (pc + 3) ls (v :: rest))) : W p l e R s m args below meth c H locs cells slots Q (F0 m pc ls (.ref a :: rest)) := mw_get F iN rfl 6 (by decide) kf_N_32 rfl hM he hv hdg kk
theorem pf_N_32 (F : mw_F p m meth c cc nL s args RN G) (hin : meth.name = "<init>") {v : Int32} {fs : List Value} (hM : mw_S G M s.heap H locs) (he : M a = some (r, .inr (ciN, fs))) (hl : 6 < fs.length) (hdg : decode cc pc = .ok (.putfield 32, 3)) (kk : ∀ (H1 : Heap) (locs1 : List Loc), mw_S G (mw_up M a (r, .inr (ciN, fs.set 6 (.int v)))) s.heap H1 locs1 → W p l e R s m args below meth c H1 locs1 cells slots Q (F0 m (pc + 3) ls rest)) : W p l e R s m args below meth c H locs cells slots Q (F0 m pc ls (.int v :: .ref a :: rest)) := mw_put (ty := .int) F iN tN tN_ok nN rfl 6 (by decide) kf_N_32 rfl (Or.inr ⟨rfl, hin, rfl⟩) (by decide +kernel) rfl rfl hM he hl hdg kk
theorem pf_N_35 (F : mw_F p m meth c cc nL s args RN G) {v : Int32} {fs : List Value} (hM : mw_S G M s.heap H locs) (he : M a = some (r, .inr (ciN, fs))) (hl : 7 < fs.length) (hdg : decode cc pc = .ok (.putfield 35, 3)) (kk : ∀ (H1 : Heap) (locs1 : List Loc), mw_S G (mw_up M a (r, .inr (ciN, fs.set 7 (.int v)))) s.heap H1 locs1 → W p l e R s m args below meth c H1 locs1 cells slots Q (F0 m (pc + 3) ls rest)) : W p l e R s m args below meth c H locs cells slots Q (F0 m pc ls (.int v :: .ref a :: rest)) := mw_put (ty := .int) F iN tN tN_ok nN rfl 7 (by decide) kf_N_35 rfl (Or.inl rfl) (by decide +kernel) rfl rfl hM he hl hdg kk
theorem pf_N_38 (F : mw_F p m meth c cc nL s args RN G) {o : Option Nat} {fs : List Value} (hM : mw_S G M s.heap H locs) (he : M a = some (r, .inr (ciN, fs))) (hl : 8 < fs.length) (hdg : decode cc pc = .ok (.putfield 38, 3)) (kk : ∀ (H1 : Heap) (locs1 : List Loc), mw_S G (mw_up M a (r, .inr (ciN, fs.set 8 (va_rf o)))) s.heap H1 locs1 → W p l e R s m args below meth c H1 locs1 cells slots Q (F0 m (pc + 3) ls rest)) : W p l e R s m args below meth c H locs cells slots Q (F0 m pc ls (va_rf o :: .ref a :: rest)) := mw_put (ty := (.object "MemberFinder$MemberInfo")) F iN tN tN_ok nN rfl 8 (by decide) kf_N_38 rfl (Or.inl rfl) (by decide +kernel) (by cases o <;> rfl) (by cases o <;> rfl) hM he hl hdg kk
theorem gf_N_42 (F : mw_F p m meth c cc nL s args RN G) {fs : List Value} {v : Value} (hM : mw_S G M s.heap H locs) (he : M a = some (r, .inr (ciC, fs))) (hv : fs[2]? = some v) (hdg : decode cc pc = .ok (.getfield 42, 3)) (kk : W p l e R s m args below meth c H locs cells slots Q (F0 m (pc + 3) ls (v :: rest))) : W p l e R s m args below meth c H locs cells slots Q (F0 m pc ls (.ref a :: rest)) := mw_get F iC rfl 2 (by decide) kf_N_42 rfl hM he hv hdg kk
theorem gf_N_9 (F : mw_F p m meth c cc nL s args RN G) {fs : List Value} {v : Value} (hM : mw_S G M s.heap H locs) (he : M a = some (r, .inr (ciN, fs))) (hv : fs[0]? = some v) (hdg : decode cc pc = .ok (.getfield 9, 3)) (kk : W p l e R s m args below meth c H locs cells slots Q (F0 m (pc + 3) ls (v :: rest))) : W p l e R s m args below meth c H locs cells slots Q (F0 m pc ls (.ref a :: rest)) := mw_get F iN rfl 0 (by decide) kf_N_9 rfl hM he hv hdg kk
theorem pf_N_9 (F : mw_F p m meth c cc nL s args RN G) (hin : meth.name = "<init>") {o : Option Nat} {fs : List Value} (hM : mw_S G M s.heap H locs) (he : M a = some (r, .inr (ciN, fs))) (hl : 0 < fs.length) (hdg : decode cc pc = .ok (.putfield 9, 3)) (kk : ∀ (H1 : Heap) (locs1 : List Loc), mw_S G (mw_up M a (r, .inr (ciN, fs.set 0 (va_rf o)))) s.heap H1 locs1 → W p l e R s m args below meth c H1 locs1 cells slots Q (F0 m (pc + 3) ls rest)) : W p l e R s m args below meth c H locs cells slots Q (F0 m pc ls (va_rf o :: .ref a :: rest)) := mw_put (ty := (.object "MemberFinder$ClassInfo")) F iN tN tN_ok nN rfl 0 (by decide) kf_N_9 rfl (Or.inr ⟨rfl, hin, rfl⟩) (by decide +kernel) (by cases o <;> rfl) (by cases o <;> rfl) hM he hl hdg kk
theorem gf_X_101 (F : mw_F p m meth c cc nL s args RX G) {fs : List Value} {v : Value} (hM : mw_S G M s.heap H locs) (he : M a = some (r, .inr (ciC, fs))) (hv : fs[0]? = some v) (hdg : decode cc pc = .ok (.getfield 101, 3)) (kk : W p l e R s m args below meth c H locs cells slots Q (F0 m (pc + 3) ls (v :: rest))) : W p l e R s m args below meth c H locs cells slots Q (F0 m pc ls (.ref a :: rest)) := mw_get F iC rfl 0 (by decide) kf_X_101 rfl hM he hv hdg kk
theorem gf_X_102 (F : mw_F p m meth c cc nL s args RX G) {fs : List Value} {v : Value} (hM : mw_S G M s.heap H locs) (he : M a = some (r, .inr (ciN, fs))) (hv : fs[6]? = some v) (hdg : decode cc pc = .ok (.getfield 102, 3)) (kk : W p l e R s m args below meth c H locs cells slots Q (F0 m (pc + 3) ls (v :: rest))) : W p l e R s m args below meth c H locs cells slots Q (F0 m pc ls (.ref a :: rest)) := mw_get F iN rfl 6 (by decide) kf_X_102 rfl hM he hv hdg kk
theorem gf_X_105 (F : mw_F p m meth c cc nL s args RX G) {fs : List Value} {v : Value} (hM : mw_S G M s.heap H locs) (he : M a = some (r, .inr (ciN, fs))) (hv : fs[4]? = some v) (hdg : decode cc pc = .ok (.getfield 105, 3)) (kk : W p l e R s m args below meth c H locs cells slots Q (F0 m (pc + 3) ls (v :: rest))) : W p l e R s m args below meth c H locs cells slots Q (F0 m pc ls (.ref a :: rest)) := mw_get F iN rfl 4 (by decide) kf_X_105 rfl hM he hv hdg kk
theorem gf_X_108 (F : mw_F p m meth c cc nL s args RX G) {fs : List Value} {v : Value} (hM : mw_S G M s.heap H locs) (he : M a = some (r, .inr (ciN, fs))) (hv : fs[1]? = some v) (hdg : decode cc pc = .ok (.getfield 108, 3)) (kk : W p l e R s m args below meth c H locs cells slots Q (F0 m (pc + 3) ls (v :: rest))) : W p l e R s m args below meth c H locs cells slots Q (F0 m pc ls (.ref a :: rest)) := mw_get F iN rfl 1 (by decide) kf_X_108 rfl hM he hv hdg kk
theorem gf_X_11 (F : mw_F p m meth c cc nL s args RX G) {fs : List Value} {v : Value} (hM : mw_S G M s.heap H locs) (he : M a = some (r, .inr (ciX, fs))) (hv : fs[0]? = some v) (hdg : decode cc pc = .ok (.getfield 11, 3)) (kk : W p l e R s m args below meth c H locs cells slots Q (F0 m (pc + 3) ls (v :: rest))) : W p l e R s m args below meth c H locs cells slots Q (F0 m pc ls (.ref a :: rest)) := mw_get F iX rfl 0 (by decide) kf_X_11 rfl hM he hv hdg kk
theorem pf_X_11 (F : mw_F p m meth c cc nL s args RX G) (hin : meth.name = "<init>") {o : Option Nat} {fs : List Value} (hM : mw_S G M s.heap H locs) (he : M a = some (r, .inr (ciX, fs))) (hl : 0 < fs.length) (hdg : decode cc pc = .ok (.putfield 11, 3)) (kk : ∀ (H1 : Heap) (locs1 : List Loc), mw_S G (mw_up M a (r, .inr (ciX, fs.set 0 (va_rf o)))) s.heap H1 locs1 → W p l e R s m args below meth c H1 locs1 cells slots Q (F0 m (pc + 3) ls rest)) : W p l e R s m args below meth c H locs cells slots Q (F0 m pc ls (va_rf o :: .ref a :: rest)) := mw_put (ty := (.array (.object "MemberFinder$ClassInfo"))) F iX tX tX_ok nX rfl 0 (by decide) kf_X_11 rfl (Or.inr ⟨rfl, hin, rfl⟩) (by decide +kernel) (by cases o <;> rfl) (by cases o <;> rfl) hM he hl hdg kk
theorem gf_X_111 (F : mw_F p m meth c cc nL s args RX G) {fs : List Value} {v : Value} (hM : mw_S G M s.heap H locs) (he : M a = some (r, .inr (ciC, fs))) (hv : fs[3]? = some v) (hdg : decode cc pc = .ok (.getfield 111, 3)) (kk : W p l e R s m args below meth c H locs cells slots Q (F0 m (pc + 3) ls (v :: rest))) : W p l e R s m args below meth c H locs cells slots Q (F0 m pc ls (.ref a :: rest)) := mw_get F iC rfl 3 (by decide) kf_X_111 rfl hM he hv hdg kk
theorem pf_X_111 (F : mw_F p m meth c cc nL s args RX G) {o : Option Nat} {fs : List Value} (hM : mw_S G M s.heap H locs) (he : M a = some (r, .inr (ciC, fs))) (hl : 3 < fs.length) (hdg : decode cc pc = .ok (.putfield 111, 3)) (kk : ∀ (H1 : Heap) (locs1 : List Loc), mw_S G (mw_up M a (r, .inr (ciC, fs.set 3 (va_rf o)))) s.heap H1 locs1 → W p l e R s m args below meth c H1 locs1 cells slots Q (F0 m (pc + 3) ls rest)) : W p l e R s m args below meth c H locs cells slots Q (F0 m pc ls (va_rf o :: .ref a :: rest)) := mw_put (ty := (.object "MemberFinder$MemberInfo")) F iC tC tC_ok nC rfl 3 (by decide) kf_X_111 rfl (Or.inl rfl) (by decide +kernel) (by cases o <;> rfl) (by cases o <;> rfl) hM he hl hdg kk
theorem gf_X_119 (F : mw_F p m meth c cc nL s args RX G) {fs : List Value} {v : Value} (hM : mw_S G M s.heap H locs) (he : M a = some (r, .inr (ciN, fs))) (hv : fs[8]? = some v) (hdg : decode cc pc = .ok (.getfield 119, 3)) (kk : W p l e R s m args below meth c H locs cells slots Q (F0 m (pc + 3) ls (v :: rest))) : W p l e R s m args below meth c H locs cells slots Q (F0 m pc ls (.ref a :: rest)) := mw_get F iN rfl 8 (by decide) kf_X_119 rfl hM he hv hdg kk
theorem pf_X_119 (F : mw_F p m meth c cc nL s args RX G) {o : Option Nat} {fs : List Value} (hM : mw_S G M s.heap H locs) (he : M a = some (r, .inr (ciN, fs))) (hl : 8 < fs.length) (hdg : decode cc pc = .ok (.putfield 119, 3)) (kk : ∀ (H1 : Heap) (locs1 : List Loc), mw_S G (mw_up M a (r, .inr (ciN, fs.set 8 (va_rf o)))) s.heap H1 locs1 → W p l e R s m args below meth c H1 locs1 cells slots Q (F0 m (pc + 3) ls rest)) : W p l e R s m args below meth c H locs cells slots Q (F0 m pc ls (va_rf o :: .ref a :: rest)) := mw_put (ty := (.object "MemberFinder$MemberInfo")) F iN tN tN_ok nN rfl 8 (by decide) kf_X_119 rfl (Or.inl rfl) (by decide +kernel) (by cases o <;> rfl) (by cases o <;> rfl) hM he hl hdg kk
theorem gf_X_122 (F : mw_F p m meth c cc nL s args RX G) {fs : List Value} {v : Value} (hM : mw_S G M s.heap H locs) (he : M a = some (r, .inr (ciC, fs))) (hv : fs[1]? = some v) (hdg : decode cc pc = .ok (.getfield 122, 3)) (kk : W p l e R s m args below meth c H locs cells slots Q (F0 m (pc + 3) ls (v :: rest))) : W p l e R s m args below meth c H locs cells slots Q (F0 m pc ls (.ref a :: rest)) := mw_get F iC rfl 1 (by decide) kf_X_122 rfl hM he hv hdg kk
theorem gf_X_143 (F : mw_F p m meth c cc nL s args RX G) {fs : List Value} {v : Value} (hM : mw_S G M s.heap H locs) (he : M a = some (r, .inr (ciC, fs))) (hv : fs[2]? = some v) (hdg : decode cc pc = .ok (.getfield 143, 3)) (kk : W p l e R s m args below meth c H locs cells slots Q (F0 m (pc + 3) ls (v :: rest))) : W p l e R s m args below meth c H locs cells slots Q (F0 m pc ls (.ref a :: rest)) := mw_get F iC rfl 2 (by decide) kf_X_143 rfl hM he hv hdg kk
theorem gf_X_17 (F : mw_F p m meth c cc nL s args RX G) {fs : List Value} {v : Value} (hM : mw_S G M s.heap H locs) (he : M a = some (r, .inr (ciX, fs))) (hv : fs[2]? = some v) (hdg : decode cc pc = .ok (.getfield 17, 3)) (kk : W p l e R s m args below meth c H locs cells slots Q (F0 m (pc + 3) ls (v :: rest))) : W p l e R s m args below meth c H locs cells slots Q (F0 m pc ls (.ref a :: rest)) := mw_get F iX rfl 2 (by decide) kf_X_17 rfl hM he hv hdg kk
theorem pf_X_17 (F : mw_F p m meth c cc nL s args RX G) (hin : meth.name = "<init>") {o : Option Nat} {fs : List Value} (hM : mw_S G M s.heap H locs) (he : M a = some (r, .inr (ciX, fs))) (hl : 2 < fs.length) (hdg : decode cc pc = .ok (.putfield 17, 3)) (kk : ∀ (H1 : Heap) (locs1 : List Loc), mw_S G (mw_up M a (r, .inr (ciX, fs.set 2 (va_rf o)))) s.heap H1 locs1 → W p l e R s m args below meth c H1 locs1 cells slots Q (F0 m (pc + 3) ls rest)) : W p l e R s m args below meth c H locs cells slots Q (F0 m pc ls (va_rf o :: .ref a :: rest)) := mw_put (ty := (.array (.object "MemberFinder$MemberInfo"))) F iX tX tX_ok nX rfl 2 (by decide) kf_X_17 rfl (Or.inr ⟨rfl, hin, rfl⟩) (by decide +kernel) (by cases o <;> rfl) (by cases o <;> rfl) hM he hl hdg kk
theorem gf_X_21 (F : mw_F p m meth c cc nL s args RX G) {fs : List Value} {v : Value} (hM : mw_S G M s.heap H locs) (he : M a = some (r, .inr (ciX, fs))) (hv : fs[5]? = some v) (hdg : decode cc pc = .ok (.getfield 21, 3)) (kk : W p l e R s m args below meth c H locs cells slots Q (F0 m (pc + 3) ls (v :: rest))) : W p l e R s m args below meth c H locs cells slots Q (F0 m pc ls (.ref a :: rest)) := mw_get F iX rfl 5 (by decide) kf_X_21 rfl hM he hv hdg kk
theorem pf_X_21 (F : mw_F p m meth c cc nL s args RX G) (hin : meth.name = "<init>") {o : Option Nat} {fs : List Value} (hM : mw_S G M s.heap H locs) (he : M a = some (r, .inr (ciX, fs))) (hl : 5 < fs.length) (hdg : decode cc pc = .ok (.putfield 21, 3)) (kk : ∀ (H1 : Heap) (locs1 : List Loc), mw_S G (mw_up M a (r, .inr (ciX, fs.set 5 (va_rf o)))) s.heap H1 locs1 → W p l e R s m args below meth c H1 locs1 cells slots Q (F0 m (pc + 3) ls rest)) : W p l e R s m args below meth c H locs cells slots Q (F0 m pc ls (va_rf o :: .ref a :: rest)) := mw_put (ty := (.array .int)) F iX tX tX_ok nX rfl 5 (by decide) kf_X_21 rfl (Or.inr ⟨rfl, hin, rfl⟩) (by decide +kernel) (by cases o <;> rfl) (by cases o <;> rfl) hM he hl hdg kk
theorem gf_X_25 (F : mw_F p m meth c cc nL s args RX G) {fs : List Value} {v : Value} (hM : mw_S G M s.heap H locs) (he : M a = some (r, .inr (ciX, fs))) (hv : fs[1]? = some v) (hdg : decode cc pc = .ok (.getfield 25, 3)) (kk : W p l e R s m args below meth c H locs cells slots Q (F0 m (pc + 3) ls (v :: rest))) : W p l e R s m args below meth c H locs cells slots Q (F0 m pc ls (.ref a :: rest)) := mw_get F iX rfl 1 (by decide) kf_X_25 rfl hM he hv hdg kk
theorem pf_X_25 (F : mw_F p m meth c cc nL s args RX G) {v : Int32} {fs : List Value} (hM : mw_S G M s.heap H locs) (he : M a = some (r, .inr (ciX, fs))) (hl : 1 < fs.length) (hdg : decode cc pc = .ok (.putfield 25, 3)) (kk : ∀ (H1 : Heap) (locs1 : List Loc), mw_S G (mw_up M a (r, .inr (ciX, fs.set 1 (.int v)))) s.heap H1 locs1 → W p l e R s m args below meth c H1 locs1 cells slots Q (F0 m (pc + 3) ls rest)) : W p l e R s m args below meth c H locs cells slots Q (F0 m pc ls (.int v :: .ref a :: rest)) := mw_put (ty := .int) F iX tX tX_ok nX rfl 1 (by decide) kf_X_25 rfl (Or.inl rfl) (by decide +kernel) rfl rfl hM he hl hdg kk
theorem gf_X_29 (F : mw_F p m meth c cc nL s args RX G) {fs : List Value} {v : Value} (hM : mw_S G M s.heap H locs) (he : M a = some (r, .inr (ciX, fs))) (hv : fs[3]? = some v) (hdg : decode cc pc = .ok (.getfield 29, 3)) (kk : W p l e R s m args below meth c H locs cells slots Q (F0 m (pc + 3) ls (v :: rest))) : W p l e R s m args below meth c H locs cells slots Q (F0 m pc ls (.ref a :: rest)) := mw_get F iX rfl 3 (by decide) kf_X_29 rfl hM he hv hdg kk
theorem pf_X_29 (F : mw_F p m meth c cc nL s args RX G) {v : Int32} {fs : List Value} (hM : mw_S G M s.heap H locs) (he : M a = some (r, .inr (ciX, fs))) (hl : 3 < fs.length) (hdg : decode cc pc = .ok (.putfield 29, 3)) (kk : ∀ (H1 : Heap) (locs1 : List Loc), mw_S G (mw_up M a (r, .inr (ciX, fs.set 3 (.int v)))) s.heap H1 locs1 → W p l e R s m args below meth c H1 locs1 cells slots Q (F0 m (pc + 3) ls rest)) : W p l e R s m args below meth c H locs cells slots Q (F0 m pc ls (.int v :: .ref a :: rest)) := mw_put (ty := .int) F iX tX tX_ok nX rfl 3 (by decide) kf_X_29 rfl (Or.inl rfl) (by decide +kernel) rfl rfl hM he hl hdg kk
theorem gf_X_32 (F : mw_F p m meth c cc nL s args RX G) {fs : List Value} {v : Value} (hM : mw_S G M s.heap H locs) (he : M a = some (r, .inr (ciX, fs))) (hv : fs[4]? = some v) (hdg : decode cc pc = .ok (.getfield 32, 3)) (kk : W p l e R s m args below meth c H locs cells slots Q (F0 m (pc + 3) ls (v :: rest))) : W p l e R s m args below meth c H locs cells slots Q (F0 m pc ls (.ref a :: rest)) := mw_get F iX rfl 4 (by decide) kf_X_32 rfl hM he hv hdg kk
theorem pf_X_32 (F : mw_F p m meth c cc nL s args RX G) {v : Int32} {fs : List Value} (hM : mw_S G M s.heap H locs) (he : M a = some (r, .inr (ciX, fs))) (hl : 4 < fs.length) (hdg : decode cc pc = .ok (.putfield 32, 3)) (kk : ∀ (H1 : Heap) (locs1 : List Loc), mw_S G (mw_up M a (r, .inr (ciX, fs.set 4 (.int v)))) s.heap H1 locs1 → W p l e R s m args below meth c H1 locs1 cells slots Q (F0 m (pc + 3) ls rest)) : W p l e R s m args below meth c H locs cells slots Q (F0 m pc ls (.int v :: .ref a :: rest)) := mw_put (ty := .int) F iX tX tX_ok nX rfl 4 (by decide) kf_X_32 rfl (Or.inl rfl) (by decide +kernel) rfl rfl hM he hl hdg kk
theorem gf_X_68 (F : mw_F p m meth c cc nL s args RX G) {fs : List Value} {v : Value} (hM : mw_S G M s.heap H locs) (he : M a = some (r, .inr (ciN, fs))) (hv : fs[5]? = some v) (hdg : decode cc pc = .ok (.getfield 68, 3)) (kk : W p l e R s m args below meth c H locs cells slots Q (F0 m (pc + 3) ls (v :: rest))) : W p l e R s m args below meth c H locs cells slots Q (F0 m pc ls (.ref a :: rest)) := mw_get F iN rfl 5 (by decide) kf_X_68 rfl hM he hv hdg kk
theorem gf_X_72 (F : mw_F p m meth c cc nL s args RX G) {fs : List Value} {v : Value} (hM : mw_S G M s.heap H locs) (he : M a = some (r, .inr (ciN, fs))) (hv : fs[0]? = some v) (hdg : decode cc pc = .ok (.getfield 72, 3)) (kk : W p l e R s m args below meth c H locs cells slots Q (F0 m (pc + 3) ls (v :: rest))) : W p l e R s m args below meth c H locs cells slots Q (F0 m pc ls (.ref a :: rest)) := mw_get F iN rfl 0 (by decide) kf_X_72 rfl hM he hv hdg kk
theorem gf_X_76 (F : mw_F p m meth c cc nL s args RX G) {fs : List Value} {v : Value} (hM : mw_S G M s.heap H locs) (he : M a = some (r, .inr (ciN, fs))) (hv : fs[7]? = some v) (hdg : decode cc pc = .ok (.getfield 76, 3)) (kk : W p l e R s m args below meth c H locs cells slots Q (F0 m (pc + 3) ls (v :: rest))) : W p l e R s m args below meth c H locs cells slots Q (F0 m pc ls (.ref a :: rest)) := mw_get F iN rfl 7 (by decide) kf_X_76 rfl hM he hv hdg kk
theorem pf_X_76 (F : mw_F p m meth c cc nL s args RX G) {v : Int32} {fs : List Value} (hM : mw_S G M s.heap H locs) (he : M a = some (r, .inr (ciN, fs))) (hl : 7 < fs.length) (hdg : decode cc pc = .ok (.putfield 76, 3)) (kk : ∀ (H1 : Heap) (locs1 : List Loc), mw_S G (mw_up M a (r, .inr (ciN, fs.set 7 (.int v)))) s.heap H1 locs1 → W p l e R s m args below meth c H1 locs1 cells slots Q (F0 m (pc + 3) ls rest)) : W p l e R s m args below meth c H locs cells slots Q (F0 m pc ls (.int v :: .ref a :: rest)) := mw_put (ty := .int) F iN tN tN_ok nN rfl 7 (by decide) kf_X_76 rfl (Or.inl rfl) (by decide +kernel) rfl rfl hM he hl hdg kk
theorem gf_X_91 (F : mw_F p m meth c cc nL s args RX G) {fs : List Value} {v : Value} (hM : mw_S G M s.heap H locs) (he : M a = some (r, .inr (ciN, fs))) (hv : fs[2]? = some v) (hdg : decode cc pc = .ok (.getfield 91, 3)) (kk : W p l e R s m args below meth c H locs cells slots Q (F0 m (pc + 3) ls (v :: rest))) : W p l e R s m args below meth c H locs cells slots Q (F0 m pc ls (.ref a :: rest)) := mw_get F iN rfl 2 (by decide) kf_X_91 rfl hM he hv hdg kk
theorem gf_X_94 (F : mw_F p m meth c cc nL s args RX G) {fs : List Value} {v : Value} (hM : mw_S G M s.heap H locs) (he : M a = some (r, .inr (ciN, fs))) (hv : fs[3]? = some v) (hdg : decode cc pc = .ok (.getfield 94, 3)) (kk : W p l e R s m args below meth c H locs cells slots Q (F0 m (pc + 3) ls (v :: rest))) : W p l e R s m args below meth c H locs cells slots Q (F0 m pc ls (.ref a :: rest)) := mw_get F iN rfl 3 (by decide) kf_X_94 rfl hM he hv hdg kk
theorem gf_Y_13 (F : mw_F p m meth c cc nL s args RY G) {fs : List Value} {v : Value} (hM : mw_S G M s.heap H locs) (he : M a = some (r, .inr (ciY, fs))) (hv : fs[1]? = some v) (hdg : decode cc pc = .ok (.getfield 13, 3)) (kk : W p l e R s m args below meth c H locs cells slots Q (F0 m (pc + 3) ls (v :: rest))) : W p l e R s m args below meth c H locs cells slots Q (F0 m pc ls (.ref a :: rest)) := mw_get F iY rfl 1 (by decide) kf_Y_13 rfl hM he hv hdg kk
theorem pf_Y_13 (F : mw_F p m meth c cc nL s args RY G) (hin : meth.name = "<init>") {o : Option Nat} {fs : List Value} (hM : mw_S G M s.heap H locs) (he : M a = some (r, .inr (ciY, fs))) (hl : 1 < fs.length) (hdg : decode cc pc = .ok (.putfield 13, 3)) (kk : ∀ (H1 : Heap) (locs1 : List Loc), mw_S G (mw_up M a (r, .inr (ciY, fs.set 1 (va_rf o)))) s.heap H1 locs1 → W p l e R s m args below meth c H1 locs1 cells slots Q (F0 m (pc + 3) ls rest)) : W p l e R s m args below meth c H locs cells slots Q (F0 m pc ls (va_rf o :: .ref a :: rest)) := mw_put (ty := (.array .int)) F iY tY tY_ok nY rfl 1 (by decide) kf_Y_13 rfl (Or.inr ⟨rfl, hin, rfl⟩) (by decide +kernel) (by cases o <;> rfl) (by cases o <;> rfl) hM he hl hdg kk
theorem gf_Y_16 (F : mw_F p m meth c cc nL s args RY G) {fs : List Value} {v : Value} (hM : mw_S G M s.heap H locs) (he : M a = some (r, .inr (ciY, fs))) (hv : fs[3]? = some v) (hdg : decode cc pc = .ok (.getfield 16, 3)) (kk : W p l e R s m args below meth c H locs cells slots Q (F0 m (pc + 3) ls (v :: rest))) : W p l e R s m args below meth c H locs cells slots Q (F0 m pc ls (.ref a :: rest)) := mw_get F iY rfl 3 (by decide) kf_Y_16 rfl hM he hv hdg kk
theorem pf_Y_16 (F : mw_F p m meth c cc nL s args RY G) (hin : meth.name = "<init>") {o : Option Nat} {fs : List Value} (hM : mw_S G M s.heap H locs) (he : M a = some (r, .inr (ciY, fs))) (hl : 3 < fs.length) (hdg : decode cc pc = .ok (.putfield 16, 3)) (kk : ∀ (H1 : Heap) (locs1 : List Loc), mw_S G (mw_up M a (r, .inr (ciY, fs.set 3 (va_rf o)))) s.heap H1 locs1 → W p l e R s m args below meth c H1 locs1 cells slots Q (F0 m (pc + 3) ls rest)) : W p l e R s m args below meth c H locs cells slots Q (F0 m pc ls (va_rf o :: .ref a :: rest)) := mw_put (ty := (.array .int)) F iY tY tY_ok nY rfl 3 (by decide) kf_Y_16 rfl (Or.inr ⟨rfl, hin, rfl⟩) (by decide +kernel) (by cases o <;> rfl) (by cases o <;> rfl) hM he hl hdg kk
theorem gf_Y_19 (F : mw_F p m meth c cc nL s args RY G) {fs : List Value} {v : Value} (hM : mw_S G M s.heap H locs) (he : M a = some (r, .inr (ciY, fs))) (hv : fs[4]? = some v) (hdg : decode cc pc = .ok (.getfield 19, 3)) (kk : W p l e R s m args below meth c H locs cells slots Q (F0 m (pc + 3) ls (v :: rest))) : W p l e R s m args below meth c H locs cells slots Q (F0 m pc ls (.ref a :: rest)) := mw_get F iY rfl 4 (by decide) kf_Y_19 rfl hM he hv hdg kk
theorem pf_Y_19 (F : mw_F p m meth c cc nL s args RY G) (hin : meth.name = "<init>") {o : Option Nat} {fs : List Value} (hM : mw_S G M s.heap H locs) (he : M a = some (r, .inr (ciY, fs))) (hl : 4 < fs.length) (hdg : decode cc pc = .ok (.putfield 19, 3)) (kk : ∀ (H1 : Heap) (locs1 : List Loc), mw_S G (mw_up M a (r, .inr (ciY, fs.set 4 (va_rf o)))) s.heap H1 locs1 → W p l e R s m args below meth c H1 locs1 cells slots Q (F0 m (pc + 3) ls rest)) : W p l e R s m args below meth c H locs cells slots Q (F0 m pc ls (va_rf o :: .ref a :: rest)) := mw_put (ty := (.array .int)) F iY tY tY_ok nY rfl 4 (by decide) kf_Y_19 rfl (Or.inr ⟨rfl, hin, rfl⟩) (by decide +kernel) (by cases o <;> rfl) (by cases o <;> rfl) hM he hl hdg kk
theorem gf_Y_22 (F : mw_F p m meth c cc nL s args RY G) {fs : List Value} {v : Value} (hM : mw_S G M s.heap H locs) (he : M a = some (r, .inr (ciY, fs))) (hv : fs[5]? = some v) (hdg : decode cc pc = .ok (.getfield 22, 3)) (kk : W p l e R s m args below meth c H locs cells slots Q (F0 m (pc + 3) ls (v :: rest))) : W p l e R s m args below meth c H locs cells slots Q (F0 m pc ls (.ref a :: rest)) := mw_get F iY rfl 5 (by decide) kf_Y_22 rfl hM he hv hdg kk
theorem pf_Y_22 (F : mw_F p m meth c cc nL s args RY G) (hin : meth.name = "<init>") {o : Option Nat} {fs : List Value} (hM : mw_S G M s.heap H locs) (he : M a = some (r, .inr (ciY, fs))) (hl : 5 < fs.length) (hdg : decode cc pc = .ok (.putfield 22, 3)) (kk : ∀ (H1 : Heap) (locs1 : List Loc), mw_S G (mw_up M a (r, .inr (ciY, fs.set 5 (va_rf o)))) s.heap H1 locs1 → W p l e R s m args below meth c H1 locs1 cells slots Q (F0 m (pc + 3) ls rest)) : W p l e R s m args below meth c H locs cells slots Q (F0 m pc ls (va_rf o :: .ref a :: rest)) := mw_put (ty := (.array .int)) F iY tY tY_ok nY rfl 5 (by decide) kf_Y_22 rfl (Or.inr ⟨rfl, hin, rfl⟩) (by decide +kernel) (by cases o <;> rfl) (by cases o <;> rfl) hM he hl hdg kk
theorem gf_Y_25 (F : mw_F p m meth c cc nL s args RY G) {fs : List Value} {v : Value} (hM : mw_S G M s.heap H locs) (he : M a = some (r, .inr (ciY, fs))) (hv : fs[6]? = some v) (hdg : decode cc pc = .ok (.getfield 25, 3)) (kk : W p l e R s m args below meth c H locs cells slots Q (F0 m (pc + 3) ls (v :: rest))) : W p l e R s m args below meth c H locs cells slots Q (F0 m pc ls (.ref a :: rest)) := mw_get F iY rfl 6 (by decide) kf_Y_25 rfl hM he hv hdg kk
theorem pf_Y_25 (F : mw_F p m meth c cc nL s args RY G) (hin : meth.name = "<init>") {o : Option Nat} {fs : List Value} (hM : mw_S G M s.heap H locs) (he : M a = some (r, .inr (ciY, fs))) (hl : 6 < fs.length) (hdg : decode cc pc = .ok (.putfield 25, 3)) (kk : ∀ (H1 : Heap) (locs1 : List Loc), mw_S G (mw_up M a (r, .inr (ciY, fs.set 6 (va_rf o)))) s.heap H1 locs1 → W p l e R s m args below meth c H1 locs1 cells slots Q (F0 m (pc + 3) ls rest)) : W p l e R s m args below meth c H locs cells slots Q (F0 m pc ls (va_rf o :: .ref a :: rest)) := mw_put (ty := (.array .int)) F iY tY tY_ok nY rfl 6 (by decide) kf_Y_25 rfl (Or.inr ⟨rfl, hin, rfl⟩) (by decide +kernel) (by cases o <;> rfl) (by cases o <;> rfl) hM he hl hdg kk
theorem gf_Y_28 (F : mw_F p m meth c cc nL s args RY G) {fs : List Value} {v : Value} (hM : mw_S G M s.heap H locs) (he : M a = some (r, .inr (ciY, fs))) (hv : fs[7]? = some v) (hdg : decode cc pc = .ok (.getfield 28, 3)) (kk : W p l e R s m args below meth c H locs cells slots Q (F0 m (pc + 3) ls (v :: rest))) : W p l e R s m args below meth c H locs cells slots Q (F0 m pc ls (.ref a :: rest)) := mw_get F iY rfl 7 (by decide) kf_Y_28 rfl hM he hv hdg kk
theorem pf_Y_28 (F : mw_F p m meth c cc nL s args RY G) (hin : meth.name = "<init>") {o : Option Nat} {fs : List Value} (hM : mw_S G M s.heap H locs) (he : M a = some (r, .inr (ciY, fs))) (hl : 7 < fs.length) (hdg : decode cc pc = .ok (.putfield 28, 3)) (kk : ∀ (H1 : Heap) (locs1 : List Loc), mw_S G (mw_up M a (r, .inr (ciY, fs.set 7 (va_rf o)))) s.heap H1 locs1 → W p l e R s m args below meth c H1 locs1 cells slots Q (F0 m (pc + 3) ls rest)) : W p l e R s m args below meth c H locs cells slots Q (F0 m pc ls (va_rf o :: .ref a :: rest)) := mw_put (ty := (.array .int)) F iY tY tY_ok nY rfl 7 (by decide) kf_Y_28 rfl (Or.inr ⟨rfl, hin, rfl⟩) (by decide +kernel) (by cases o <;> rfl) (by cases o <;> rfl) hM he hl hdg kk
theorem gf_Y_31 (F : mw_F p m meth c cc nL s args RY G) {fs : List Value} {v : Value} (hM : mw_S G M s.heap H locs) (he : M a = some (r, .inr (ciY, fs))) (hv : fs[8]? = some v) (hdg : decode cc pc = .ok (.getfield 31, 3)) (kk : W p l e R s m args below meth c H locs cells slots Q (F0 m (pc + 3) ls (v :: rest))) : W p l e R s m args below meth c H locs cells slots Q (F0 m pc ls (.ref a :: rest)) := mw_get F iY rfl 8 (by decide) kf_Y_31 rfl hM he hv hdg kk
theorem pf_Y_31 (F : mw_F p m meth c cc nL s args RY G) (hin : meth.name = "<init>") {o : Option Nat} {fs : List Value} (hM : mw_S G M s.heap H locs) (he : M a = some (r, .inr (ciY, fs))) (hl : 8 < fs.length) (hdg : decode cc pc = .ok (.putfield 31, 3)) (kk : ∀ (H1 : Heap) (locs1 : List Loc), mw_S G (mw_up M a (r, .inr (ciY, fs.set 8 (va_rf o)))) s.heap H1 locs1 → W p l e R s m args below meth c H1 locs1 cells slots Q (F0 m (pc + 3) ls rest)) : W p l e R s m args below meth c H locs cells slots Q (F0 m pc ls (va_rf o :: .ref a :: rest)) := mw_put (ty := (.array .boolean)) F iY tY tY_ok nY rfl 8 (by decide) kf_Y_31 rfl (Or.inr ⟨rfl, hin, rfl⟩) (by decide +kernel) (by cases o <;> rfl) (by cases o <;> rfl) hM he hl hdg kk
theorem gf_Y_35 (F : mw_F p m meth c cc nL s args RY G) {fs : List Value} {v : Value} (hM : mw_S G M s.heap H locs) (he : M a = some (r, .inr (ciY, fs))) (hv : fs[9]? = some v) (hdg : decode cc pc = .ok (.getfield 35, 3)) (kk : W p l e R s m args below meth c H locs cells slots Q (F0 m (pc + 3) ls (v :: rest))) : W p l e R s m args below meth c H locs cells slots Q (F0 m pc ls (.ref a :: rest)) := mw_get F iY rfl 9 (by decide) kf_Y_35 rfl hM he hv hdg kk
theorem pf_Y_35 (F : mw_F p m meth c cc nL s args RY G) (hin : meth.name = "<init>") {o : Option Nat} {fs : List Value} (hM : mw_S G M s.heap H locs) (he : M a = some (r, .inr (ciY, fs))) (hl : 9 < fs.length) (hdg : decode cc pc = .ok (.putfield 35, 3)) (kk : ∀ (H1 : Heap) (locs1 : List Loc), mw_S G (mw_up M a (r, .inr (ciY, fs.set 9 (va_rf o)))) s.heap H1 locs1 → W p l e R s m args below meth c H1 locs1 cells slots Q (F0 m (pc + 3) ls rest)) : W p l e R s m args below meth c H locs cells slots Q (F0 m pc ls (va_rf o :: .ref a :: rest)) := mw_put (ty := (.array .boolean)) F iY tY tY_ok nY rfl 9 (by decide) kf_Y_35 rfl (Or.inr ⟨rfl, hin, rfl⟩) (by decide +kernel) (by cases o <;> rfl) (by cases o <;> rfl) hM he hl hdg kk
theorem gf_Y_38 (F : mw_F p m meth c cc nL s args RY G) {fs : List Value} {v : Value} (hM : mw_S G M s.heap H locs) (he : M a = some (r, .inr (ciY, fs))) (hv : fs[12]? = some v) (hdg : decode cc pc = .ok (.getfield 38, 3)) (kk : W p l e R s m args below meth c H locs cells slots Q (F0 m (pc + 3) ls (v :: rest))) : W p l e R s m args below meth c H locs cells slots Q (F0 m pc ls (.ref a :: rest)) := mw_get F iY rfl 12 (by decide) kf_Y_38 rfl hM he hv hdg kk
theorem pf_Y_38 (F : mw_F p m meth c cc nL s args RY G) (hin : meth.name = "<init>") {o : Option Nat} {fs : List Value} (hM : mw_S G M s.heap H locs) (he : M a = some (r, .inr (ciY, fs))) (hl : 12 < fs.length) (hdg : decode cc pc = .ok (.putfield 38, 3)) (kk : ∀ (H1 : Heap) (locs1 : List Loc), mw_S G (mw_up M a (r, .inr (ciY, fs.set 12 (va_rf o)))) s.heap H1 locs1 → W p l e R s m args below meth c H1 locs1 cells slots Q (F0 m (pc + 3) ls rest)) : W p l e R s m args below meth c H locs cells slots Q (F0 m pc ls (va_rf o :: .ref a :: rest)) := mw_put (ty := (.array .int)) F iY tY tY_ok nY rfl 12 (by decide) kf_Y_38 rfl (Or.inr ⟨rfl, hin, rfl⟩) (by decide +kernel) (by cases o <;> rfl) (by cases o <;> rfl) hM he hl hdg kk
theorem gf_Y_41 (F : mw_F p m meth c cc nL s args RY G) {fs : List Value} {v : Value} (hM : mw_S G M s.heap H locs) (he : M a = some (r, .inr (ciY, fs))) (hv : fs[14]? = some v) (hdg : decode cc pc = .ok (.getfield 41, 3)) (kk : W p l e R s m args below meth c H locs cells slots Q (F0 m (pc + 3) ls (v :: rest))) : W p l e R s m args below meth c H locs cells slots Q (F0 m pc ls (.ref a :: rest)) := mw_get F iY rfl 14 (by decide) kf_Y_41 rfl hM he hv hdg kk
theorem pf_Y_41 (F : mw_F p m meth c cc nL s args RY G) (hin : meth.name = "<init>") {o : Option Nat} {fs : List Value} (hM : mw_S G M s.heap H locs) (he : M a = some (r, .inr (ciY, fs))) (hl : 14 < fs.length) (hdg : decode cc pc = .ok (.putfield 41, 3)) (kk : ∀ (H1 : Heap) (locs1 : List Loc), mw_S G (mw_up M a (r, .inr (ciY, fs.set 14 (va_rf o)))) s.heap H1 locs1 → W p l e R s m args below meth c H1 locs1 cells slots Q (F0 m (pc + 3) ls rest)) : W p l e R s m args below meth c H locs cells slots Q (F0 m pc ls (va_rf o :: .ref a :: rest)) := mw_put (ty := (.array .boolean)) F iY tY tY_ok nY rfl 14 (by decide) kf_Y_41 rfl (Or.inr ⟨rfl, hin, rfl⟩) (by decide +kernel) (by cases o <;> rfl) (by cases o <;> rfl) hM he hl hdg kk
theorem gf_Y_44 (F : mw_F p m meth c cc nL s args RY G) {fs : List Value} {v : Value} (hM : mw_S G M s.heap H locs) (he : M a = some (r, .inr (ciY, fs))) (hv : fs[2]? = some v) (hdg : decode cc pc = .ok (.getfield 44, 3)) (kk : W p l e R s m args below meth c H locs cells slots Q (F0 m (pc + 3) ls (v :: rest))) : W p l e R s m args below meth c H locs cells slots Q (F0 m pc ls (.ref a :: rest)) := mw_get F iY rfl 2 (by decide) kf_Y_44 rfl hM he hv hdg kk
theorem pf_Y_44 (F : mw_F p m meth c cc nL s args RY G) {v : Int32} {fs : List Value} (hM : mw_S G M s.heap H locs) (he : M a = some (r, .inr (ciY, fs))) (hl : 2 < fs.length) (hdg : decode cc pc = .ok (.putfield 44, 3)) (kk : ∀ (H1 : Heap) (locs1 : List Loc), mw_S G (mw_up M a (r, .inr (ciY, fs.set 2 (.int v)))) s.heap H1 locs1 → W p l e R s m args below meth c H1 locs1 cells slots Q (F0 m (pc + 3) ls rest)) : W p l e R s m args below meth c H locs cells slots Q (F0 m pc ls (.int v :: .ref a :: rest)) := mw_put (ty := .int) F iY tY tY_ok nY rfl 2 (by decide) kf_Y_44 rfl (Or.inl rfl) (by decide +kernel) rfl rfl hM he hl hdg kk
theorem gf_Y_48 (F : mw_F p m meth c cc nL s args RY G) {fs : List Value} {v : Value} (hM : mw_S G M s.heap H locs) (he : M a = some (r, .inr (ciY, fs))) (hv : fs[10]? = some v) (hdg : decode cc pc = .ok (.getfield 48, 3)) (kk : W p l e R s m args below meth c H locs cells slots Q (F0 m (pc + 3) ls (v :: rest))) : W p l e R s m args below meth c H locs cells slots Q (F0 m pc ls (.ref a :: rest)) := mw_get F iY rfl 10 (by decide) kf_Y_48 rfl hM he hv hdg kk
theorem pf_Y_48 (F : mw_F p m meth c cc nL s args RY G) {v : Int32} {fs : List Value} (hM : mw_S G M s.heap H locs) (he : M a = some (r, .inr (ciY, fs))) (hl : 10 < fs.length) (hdg : decode cc pc = .ok (.putfield 48, 3)) (kk : ∀ (H1 : Heap) (locs1 : List Loc), mw_S G (mw_up M a (r, .inr (ciY, fs.set 10 (.int v)))) s.heap H1 locs1 → W p l e R s m args below meth c H1 locs1 cells slots Q (F0 m (pc + 3) ls rest)) : W p l e R s m args below meth c H locs cells slots Q (F0 m pc ls (.int v :: .ref a :: rest)) := mw_put (ty := .int) F iY tY tY_ok nY rfl 10 (by decide) kf_Y_48 rfl (Or.inl rfl) (by decide +kernel) rfl rfl hM he hl hdg kk
theorem gf_Y_51 (F : mw_F p m meth c cc nL s args RY G) {fs : List Value} {v : Value} (hM : mw_S G M s.heap H locs) (he : M a = some (r, .inr (ciY, fs))) (hv : fs[11]? = some v) (hdg : decode cc pc = .ok (.getfield 51, 3)) (kk : W p l e R s m args below meth c H locs cells slots Q (F0 m (pc + 3) ls (v :: rest))) : W p l e R s m args below meth c H locs cells slots Q (F0 m pc ls (.ref a :: rest)) := mw_get F iY rfl 11 (by decide) kf_Y_51 rfl hM he hv hdg kk
theorem pf_Y_51 (F : mw_F p m meth c cc nL s args RY G) {v : Int32} {fs : List Value} (hM : mw_S G M s.heap H locs) (he : M a = some (r, .inr (ciY, fs))) (hl : 11 < fs.length) (hdg : decode cc pc = .ok (.putfield 51, 3)) (kk : ∀ (H1 : Heap) (locs1 : List Loc), mw_S G (mw_up M a (r, .inr (ciY, fs.set 11 (.int v)))) s.heap H1 locs1 → W p l e R s m args below meth c H1 locs1 cells slots Q (F0 m (pc + 3) ls rest)) : W p l e R s m args below meth c H locs cells slots Q (F0 m pc ls (.int v :: .ref a :: rest)) := mw_put (ty := .int) F iY tY tY_ok nY rfl 11 (by decide) kf_Y_51 rfl (Or.inl rfl) (by decide +kernel) rfl rfl hM he hl hdg kk
theorem gf_Y_7 (F : mw_F p m meth c cc nL s args RY G) {fs : List Value} {v : Value} (hM : mw_S G M s.heap H locs) (he : M a = some (r, .inr (ciY, fs))) (hv : fs[0]? = some v) (hdg : decode cc pc = .ok (.getfield 7, 3)) (kk : W p l e R s m args below meth c H locs cells slots Q (F0 m (pc + 3) ls (v :: rest))) : W p l e R s m args below meth c H locs cells slots Q (F0 m pc ls (.ref a :: rest)) := mw_get F iY rfl 0 (by decide) kf_Y_7 rfl hM he hv hdg kk
theorem pf_Y_7 (F : mw_F p m meth c cc nL s args RY G) (hin : meth.name = "<init>") {o : Option Nat} {fs : List Value} (hM : mw_S G M s.heap H locs) (he : M a = some (r, .inr (ciY, fs))) (hl : 0 < fs.length) (hdg : decode cc pc = .ok (.putfield 7, 3)) (kk : ∀ (H1 : Heap) (locs1 : List Loc), mw_S G (mw_up M a (r, .inr (ciY, fs.set 0 (va_rf o)))) s.heap H1 locs1 → W p l e R s m args below meth c H1 locs1 cells slots Q (F0 m (pc + 3) ls rest)) : W p l e R s m args below meth c H locs cells slots Q (F0 m pc ls (va_rf o :: .ref a :: rest)) := mw_put (ty := (.array .int)) F iY tY tY_ok nY rfl 0 (by decide) kf_Y_7 rfl (Or.inr ⟨rfl, hin, rfl⟩) (by decide +kernel) (by cases o <;> rfl) (by cases o <;> rfl) hM he hl hdg kk
theorem gf_Y_91 (F : mw_F p m meth c cc nL s args RY G) {fs : List Value} {v : Value} (hM : mw_S G M s.heap H locs) (he : M a = some (r, .inr (ciY, fs))) (hv : fs[13]? = some v) (hdg : decode cc pc = .ok (.getfield 91, 3)) (kk : W p l e R s m args below meth c H locs cells slots Q (F0 m (pc + 3) ls (v :: rest))) : W p l e R s m args below meth c H locs cells slots Q (F0 m pc ls (.ref a :: rest)) := mw_get F iY rfl 13 (by decide) kf_Y_91 rfl hM he hv hdg kk
theorem pf_Y_91 (F : mw_F p m meth c cc nL s args RY G) {v : Int32} {fs : List Value} (hM : mw_S G M s.heap H locs) (he : M a = some (r, .inr (ciY, fs))) (hl : 13 < fs.length) (hdg : decode cc pc = .ok (.putfield 91, 3)) (kk : ∀ (H1 : Heap) (locs1 : List Loc), mw_S G (mw_up M a (r, .inr (ciY, fs.set 13 (.int v)))) s.heap H1 locs1 → W p l e R s m args below meth c H1 locs1 cells slots Q (F0 m (pc + 3) ls rest)) : W p l e R s m args below meth c H locs cells slots Q (F0 m pc ls (.int v :: .ref a :: rest)) := mw_put (ty := .int) F iY tY tY_ok nY rfl 13 (by decide) kf_Y_91 rfl (Or.inl rfl) (by decide +kernel) rfl rfl hM he hl hdg kk
end GF
end
section
abbrev xc_e (ca ma : Nat → Nat) (σ : sg_T) (i : Nat) : va_E := .inr (ciC, [.int (nI i), va_rf ((sg_pr σ i).map ca), .int (sg_pk σ i), va_rf ((fo_g (fun m => decide (sg_mc σ m = i)) (sg_nm σ)).map ma)])
abbrev xm_e (ca ma : Nat → Nat) (σ : sg_T) (j : Nat) : va_E := .inr (ciN, [.ref (ca (sg_mc σ j)), .int (sg_kd σ j), .int (sg_mn σ j), .int (sg_ty σ j), .int (mb_i (sg_fx σ j)), .int (mb_i (sg_fn σ j)), .int (sg_rg σ j), .int (nI j), va_rf ((fo_g (fun m => decide (sg_mc σ m = sg_mc σ j)) j).map ma)])
def xw_ (G : mw_G) (M : mw_M) (x qc qm ql : Nat) (ca ma : Nat → Nat) (σ : sg_T) (rf : Int32) (lp : Nat → Int32) : Prop :=
  sg_W σ ∧
  M x = some ((0, 0), .inr (ciX, [.ref qc, .int (nI (sg_nc σ)), .ref qm, .int (nI (sg_nm σ)), .int rf, .ref ql])) ∧
  M qc = some ((1, 0), aC_ G 40 (fun i => if i < sg_nc σ then some (ca i) else none)) ∧
  M qm = some ((2, 0), aN_ G 200 (fun j => if j < sg_nm σ then some (ma j) else none)) ∧
  M ql = some ((3, 0), aI_ G 40 lp) ∧
  (∀ i, i < sg_nc σ → M (ca i) = some ((4, i), xc_e ca ma σ i)) ∧
  ∀ j, j < sg_nm σ → M (ma j) = some ((5, j), xm_e ca ma σ j)
section XW
variable {G : mw_G} {M : mw_M} {x qc qm ql : Nat} {ca ma : Nat → Nat} {σ : sg_T} {rf : Int32} {lp : Nat → Int32}
theorem xw_w (h : xw_ G M x qc qm ql ca ma σ rf lp) : sg_W σ := h.1
theorem xw_nc (h : xw_ G M x qc qm ql ca ma σ rf lp) : sg_nc σ ≤ 40 := h.1.1
theorem xw_nm (h : xw_ G M x qc qm ql ca ma σ rf lp) : sg_nm σ ≤ 200 := h.1.2.1
theorem xw_pr (h : xw_ G M x qc qm ql ca ma σ rf lp) {c p : Nat} (hc : c < sg_nc σ) (hp : sg_pr σ c = some p) : p < c := h.1.2.2.1 c p hc hp
theorem xw_mc (h : xw_ G M x qc qm ql ca ma σ rf lp) {m : Nat} (hm : m < sg_nm σ) : sg_mc σ m < sg_nc σ := h.1.2.2.2.1 m hm
theorem xw_x (h : xw_ G M x qc qm ql ca ma σ rf lp) : M x = some ((0, 0), .inr (ciX, [.ref qc, .int (nI (sg_nc σ)), .ref qm, .int (nI (sg_nm σ)), .int rf, .ref ql])) := h.2.1
theorem xw_qc (h : xw_ G M x qc qm ql ca ma σ rf lp) : M qc = some ((1, 0), aC_ G 40 (fun i => if i < sg_nc σ then some (ca i) else none)) := h.2.2.1
theorem xw_qm (h : xw_ G M x qc qm ql ca ma σ rf lp) : M qm = some ((2, 0), aN_ G 200 (fun j => if j < sg_nm σ then some (ma j) else none)) := h.2.2.2.1
theorem xw_ql (h : xw_ G M x qc qm ql ca ma σ rf lp) : M ql = some ((3, 0), aI_ G 40 lp) := h.2.2.2.2.1
theorem xw_c (h : xw_ G M x qc qm ql ca ma σ rf lp) {i : Nat} (hi : i < sg_nc σ) : M (ca i) = some ((4, i), xc_e ca ma σ i) := h.2.2.2.2.2.1 i hi
theorem xw_m (h : xw_ G M x qc qm ql ca ma σ rf lp) {j : Nat} (hj : j < sg_nm σ) : M (ma j) = some ((5, j), xm_e ca ma σ j) := h.2.2.2.2.2.2 j hj
theorem xw_ci (h : xw_ G M x qc qm ql ca ma σ rf lp) {i j : Nat} (hi : i < sg_nc σ) (hj : j < sg_nc σ) (he : ca i = ca j) : i = j := by
  have h1 := xw_c h hi
  rw [he, xw_c h hj] at h1
  have h2 := congrArg Prod.fst (Option.some.inj h1)
  exact (congrArg Prod.snd h2).symm
theorem xw_mi (h : xw_ G M x qc qm ql ca ma σ rf lp) {i j : Nat} (hi : i < sg_nm σ) (hj : j < sg_nm σ) (he : ma i = ma j) : i = j := by
  have h1 := xw_m h hi
  rw [he, xw_m h hj] at h1
  have h2 := congrArg Prod.fst (Option.some.inj h1)
  exact (congrArg Prod.snd h2).symm
theorem xw_cq (h : xw_ G M x qc qm ql ca ma σ rf lp) {i j : Nat} (hi : i < sg_nc σ) (hj : j < sg_nc σ) : some (ca i) = some (ca j) ↔ i = j := ⟨fun q => xw_ci h hi hj (Option.some.inj q), fun q => by rw [q]⟩
theorem xw_mq (h : xw_ G M x qc qm ql ca ma σ rf lp) {i j : Nat} (hi : i < sg_nm σ) (hj : j < sg_nm σ) : some (ma i) = some (ma j) ↔ i = j := ⟨fun q => xw_mi h hi hj (Option.some.inj q), fun q => by rw [q]⟩
theorem xw_lp (h : xw_ G M x qc qm ql ca ma σ rf lp) (lp' : Nat → Int32) : xw_ G (mw_up M ql ((3, 0), aI_ G 40 lp')) x qc qm ql ca ma σ rf lp' :=
  ⟨h.1, mw_oth (xw_ql h) (xw_x h) (by decide), mw_oth (xw_ql h) (xw_qc h) (by decide), mw_oth (xw_ql h) (xw_qm h) (by decide), mw_at, fun i hi => mw_oth (xw_ql h) (xw_c h hi) (by simp), fun j hj => mw_oth (xw_ql h) (xw_m h hj) (by simp)⟩
theorem xw_rf (h : xw_ G M x qc qm ql ca ma σ rf lp) (rf' : Int32) : xw_ G (mw_up M x ((0, 0), .inr (ciX, [.ref qc, .int (nI (sg_nc σ)), .ref qm, .int (nI (sg_nm σ)), .int rf', .ref ql]))) x qc qm ql ca ma σ rf' lp :=
  ⟨h.1, mw_at, mw_oth (xw_x h) (xw_qc h) (by decide), mw_oth (xw_x h) (xw_qm h) (by decide), mw_oth (xw_x h) (xw_ql h) (by decide), fun i hi => mw_oth (xw_x h) (xw_c h hi) (by simp), fun j hj => mw_oth (xw_x h) (xw_m h hj) (by simp)⟩
end XW
def kx_ (M M' : mw_M) : Prop := ∀ (a : Nat) (r : Nat × Nat) (e : va_E), M a = some (r, e) → 10 ≤ r.1 → M' a = some (r, e)
def ky_ (M M' : mw_M) : Prop := ∀ (a : Nat) (r : Nat × Nat) (e : va_E), M a = some (r, e) → r.1 < 10 → M' a = some (r, e)
theorem kx_rf {M : mw_M} : kx_ M M := fun _ _ _ h _ => h
theorem ky_rf {M : mw_M} : ky_ M M := fun _ _ _ h _ => h
theorem kx_tr {M1 M2 M3 : mw_M} (h : kx_ M1 M2) (g : kx_ M2 M3) : kx_ M1 M3 := fun a r e q hr => g a r e (h a r e q hr) hr
theorem ky_tr {M1 M2 M3 : mw_M} (h : ky_ M1 M2) (g : ky_ M2 M3) : ky_ M1 M3 := fun a r e q hr => g a r e (h a r e q hr) hr
theorem kx_up {M : mw_M} {a : Nat} {r : Nat × Nat} {e0 e : va_E} (h : M a = some (r, e0)) (hr : r.1 < 10) : kx_ M (mw_up M a (r, e)) := fun b t f q ht => by
  rw [mw_ne (ml_ne q h (fun z => by subst z; omega)), q]
theorem ky_up {M : mw_M} {a : Nat} {r : Nat × Nat} {e0 e : va_E} (h : M a = some (r, e0)) (hr : 10 ≤ r.1) : ky_ M (mw_up M a (r, e)) := fun b t f q ht => by
  rw [mw_ne (ml_ne q h (fun z => by subst z; omega)), q]
theorem kx_nw {M : mw_M} {a : Nat} {x : (Nat × Nat) × va_E} (h : M a = none) : kx_ M (mw_up M a x) := fun _ _ _ q _ => mw_old h q
theorem ky_nw {M : mw_M} {a : Nat} {x : (Nat × Nat) × va_E} (h : M a = none) : ky_ M (mw_up M a x) := fun _ _ _ q _ => mw_old h q
theorem xw_ky {G : mw_G} {M M' : mw_M} {x qc qm ql : Nat} {ca ma : Nat → Nat} {σ : sg_T} {rf : Int32} {lp : Nat → Int32} (h : xw_ G M x qc qm ql ca ma σ rf lp) (k : ky_ M M') : xw_ G M' x qc qm ql ca ma σ rf lp :=
  ⟨h.1, k _ _ _ (xw_x h) (by decide), k _ _ _ (xw_qc h) (by decide), k _ _ _ (xw_qm h) (by decide), k _ _ _ (xw_ql h) (by decide), fun i hi => k _ _ _ (xw_c h hi) (Nat.le_of_ble_eq_true rfl), fun j hj => k _ _ _ (xw_m h hj) (Nat.le_of_ble_eq_true rfl)⟩
end
section
theorem fm_n {σ : sg_T} {n t : Int32} {c : Nat} {cs : List Nat} (h : sg_oo σ c n t = none) : (c :: cs).filterMap (fun c => sg_oo σ c n t) = cs.filterMap (fun c => sg_oo σ c n t) := List.filterMap_cons_none (f := fun c => sg_oo σ c n t) h
theorem fm_s {σ : sg_T} {n t : Int32} {c y : Nat} {cs : List Nat} (h : sg_oo σ c n t = some y) : (c :: cs).filterMap (fun c => sg_oo σ c n t) = y :: cs.filterMap (fun c => sg_oo σ c n t) := List.filterMap_cons_some (f := fun c => sg_oo σ c n t) h
theorem li_ct {L : List Int32} {v : Int32} : L.contains v = true ↔ v ∈ L := by simp
def ov_t (N : Nat) (R K : Nat → Int32) (O : Nat → Nat → Bool) : Prop := ∀ i j, j < i → i < N → (O i j = true ↔ (¬ R i = 0 ∧ ¬ R j = 0 ∧ (¬ R j = 1 ∨ K i = K j ∨ ∃ k, j < k ∧ k < i ∧ O i k = true ∧ O k j = true)))
theorem ov_tr {N : Nat} {R K : Nat → Int32} {O : Nat → Nat → Bool} (h : ov_t N R K O) {i k j : Nat} (h1 : j < k) (h2 : k < i) (h3 : i < N) (a : O i k = true) (b : O k j = true) : O i j = true := by
  refine (h i j (by omega) h3).mpr ⟨((h i k h2 h3).mp a).1, ((h k j h1 (by omega)).mp b).2.1, Or.inr (Or.inr ⟨k, h1, h2, a, b⟩)⟩
theorem ov_cl {N : Nat} {R K : Nat → Int32} {O : Nat → Nat → Bool} (h : ov_t N R K O) {j : Nat} (hj : R j = 1) : ∀ i, j < i → i < N → O i j = true → K i = K j ∨ ∃ k, j < k ∧ k < i ∧ O i k = true ∧ K k = K j := by
  intro i
  induction i using Nat.strongRecOn with
  | ind i ih =>
    intro h1 h2 h3
    obtain ⟨-, -, q⟩ := (h i j h1 h2).mp h3
    rcases q with q | q | ⟨k, k1, k2, k3, k4⟩
    · exact absurd hj q
    · exact Or.inl q
    · rcases ih k k2 k1 (by omega) k4 with q | ⟨k', q1, q2, q3, q4⟩
      · exact Or.inr ⟨k, k1, k2, k3, q⟩
      · exact Or.inr ⟨k', q1, by omega, ov_tr h q2 k2 h2 k3 q3, q4⟩
theorem ov_cl2 {N : Nat} {R K : Nat → Int32} {O : Nat → Nat → Bool} (h : ov_t N R K O) {i j : Nat} (h1 : j < i) (h2 : i < N) (hi : ¬ R i = 0) (hj : R j = 1) : O i j = true ↔ (K i = K j ∨ ∃ k, j < k ∧ k < i ∧ O i k = true ∧ K k = K j) := by
  have hj0 : ¬ R j = 0 := by rw [hj]; decide
  refine ⟨ov_cl h hj i h1 h2, fun q => ?_⟩
  rcases q with q | ⟨k, k1, k2, k3, k4⟩
  · exact (h i j h1 h2).mpr ⟨hi, hj0, Or.inr (Or.inl q)⟩
  · have hk : O k j = true := (h k j k1 (by omega)).mpr ⟨((h i k k2 h2).mp k3).2.1, hj0, Or.inr (Or.inl k4)⟩
    exact ov_tr h k1 k2 h2 k3 hk
def dn_l (g : Nat → Nat) : Nat → List Nat
  | 0 => []
  | k + 1 => g k :: dn_l g k
theorem dn_s (g : Nat → Nat) (k : Nat) : dn_l g (k + 1) = g k :: dn_l g k := rfl
theorem dn_len (g : Nat → Nat) (k : Nat) : (dn_l g k).length = k := by
  induction k with
  | zero => rfl
  | succ k ih => rw [dn_s, List.length_cons, ih]
theorem dn_nil {g : Nat → Nat} {k : Nat} (h : ([] : List Nat) = dn_l g k) : k = 0 := by
  cases k with
  | zero => rfl
  | succ k => cases h
theorem dn_cons {g : Nat → Nat} {k y : Nat} {l : List Nat} (h : y :: l = dn_l g k) : ∃ k', k = k' + 1 ∧ y = g k' ∧ l = dn_l g k' := by
  cases k with
  | zero => cases h
  | succ k =>
    rw [dn_s] at h
    injection h with h1 h2
    exact ⟨k, rfl, h1, h2⟩
theorem ov_wk {σ : sg_T} {n t : Int32} {N : Nat} {R K : Nat → Int32} {O : Nat → Nat → Bool} {g : Nat → Nat} (h : ov_t N R K O) {i : Nat} (hi : i < N) (hRi : ¬ R i = 0) (hR : ∀ k, k < i → R k = sg_rg σ (g k)) (hK : ∀ k, k < i → K k = sg_pk σ (sg_mc σ (g k)))
    (ho : ∀ k, k < i → sg_oo σ (sg_mc σ (g k)) n t = some (g k)) (hno : ∀ a b, a < i → b < i → g a = g b → a = b) {j : Nat} : ∀ (cs : List Nat) (k : Nat) (L : List Int32), k ≤ i → j < k → cs.filterMap (fun c => sg_oo σ c n t) = dn_l g k → (∀ v, v ∈ L ↔ (v = K i ∨ ∃ k', k ≤ k' ∧ k' < i ∧ O i k' = true ∧ K k' = v)) →
      ov_l σ n t (sg_mc σ (g j)) L cs = O i j := by
  intro cs
  induction cs with
  | nil =>
    intro k L hk hj hf
    have := dn_nil hf
    omega
  | cons c cs ih =>
    intro k L hk hj hf hL
    unfold ov_l
    cases e : sg_oo σ c n t with
    | none =>
      have hne : ¬ c = sg_mc σ (g j) := fun q => by
        rw [q, ho j (by omega)] at e
        cases e
      have hc : ov_c σ n t L c = false := by unfold ov_c; rw [e]
      rw [if_neg hne, hc]
      rw [fm_n e] at hf
      exact ih k L hk hj hf hL
    | some y =>
      rw [fm_s e] at hf
      obtain ⟨k', rfl, rfl, hf'⟩ := dn_cons hf
      have hcy : sg_mc σ (g k') = c := (oo_some e).2.1
      have hc : ov_c σ n t L c = O i k' := by
        unfold ov_c
        rw [e]
        show ov_y σ L (g k') = O i k'
        unfold ov_y
        rw [← hR k' (by omega), ← hK k' (by omega)]
        by_cases h1 : R k' = 1
        · rw [if_pos h1]
          have hcl := ov_cl2 h (i := i) (j := k') (by omega) hi hRi h1
          have hm := hL (K k')
          cases hO : O i k' with
          | true =>
            refine li_ct.mpr (hm.mpr ?_)
            rcases hcl.mp hO with q | ⟨k2, q1, q2, q3, q4⟩
            · exact Or.inl q.symm
            · exact Or.inr ⟨k2, by omega, q2, q3, q4⟩
          | false =>
            cases hx : L.contains (K k') with
            | false => rfl
            | true =>
              have hx' := hm.mp (li_ct.mp hx)
              have : O i k' = true := hcl.mpr (by
                rcases hx' with q | ⟨k2, q1, q2, q3, q4⟩
                · exact Or.inl q.symm
                · exact Or.inr ⟨k2, by omega, q2, q3, q4⟩)
              rw [hO] at this
              cases this
        · rw [if_neg h1]
          have hh := h i k' (by omega) hi
          by_cases h0 : R k' = 0
          · cases hO : O i k' with
            | false => simp [h0]
            | true => exact absurd h0 (hh.mp hO).2.1
          · rw [hh.mpr ⟨hRi, h0, Or.inl h1⟩]
            simp [h0]
      by_cases hcg : c = sg_mc σ (g j)
      · rw [if_pos hcg, hc]
        have h2 : sg_oo σ c n t = some (g j) := by rw [hcg]; exact ho j (by omega)
        rw [e] at h2
        by_cases hjk : j = k'
        · rw [hjk]
        · exfalso
          exact hjk (hno j k' (by omega) (by omega) (Option.some.inj h2).symm)
      · rw [if_neg hcg, hc]
        have hjk : j < k' := by
          by_cases q : j = k'
          · rw [q] at hcg; exact absurd hcy.symm hcg
          · omega
        refine ih k' _ (by omega) hjk hf' (fun v => ?_)
        have hm := hL v
        by_cases hO : O i k' = true
        · rw [if_pos hO, List.mem_append, List.mem_singleton, hm]
          constructor
          · intro q
            rcases q with (q | ⟨k2, q1, q2, q3, q4⟩) | q
            · exact Or.inl q
            · exact Or.inr ⟨k2, by omega, q2, q3, q4⟩
            · exact Or.inr ⟨k', Nat.le_refl _, by omega, hO, by rw [q, ← hcy]; exact hK k' (by omega)⟩
          · intro q
            rcases q with q | ⟨k2, q1, q2, q3, q4⟩
            · exact Or.inl (Or.inl q)
            · by_cases hk2 : k2 = k'
              · refine Or.inr ?_
                rw [← q4, hk2, ← hcy]; exact hK k' (by omega)
              · exact Or.inl (Or.inr ⟨k2, by omega, q2, q3, q4⟩)
        · rw [if_neg hO, hm]
          constructor
          · intro q
            rcases q with q | ⟨k2, q1, q2, q3, q4⟩
            · exact Or.inl q
            · exact Or.inr ⟨k2, by omega, q2, q3, q4⟩
          · intro q
            rcases q with q | ⟨k2, q1, q2, q3, q4⟩
            · exact Or.inl q
            · by_cases hk2 : k2 = k'
              · rw [hk2] at q3; exact absurd q3 hO
              · exact Or.inr ⟨k2, by omega, q2, q3, q4⟩
theorem dn_ln {σ : sg_T} (hW : sg_W σ) {n t : Int32} {g : Nat → Nat} : ∀ (u : Nat) (o : Option Nat) (N : Nat), (∀ d, o = some d → d < u ∧ d < sg_nc σ) → (ln_o (sg_pr σ) o).filterMap (fun c => sg_oo σ c n t) = dn_l g N → ∀ i, i < N → sg_oo σ (sg_mc σ (g i)) n t = some (g i) ∧ (∀ d, o = some d → sg_mc σ (g i) ≤ d) ∧ (ln_o (sg_pr σ) (sg_pr σ (sg_mc σ (g i)))).filterMap (fun c => sg_oo σ c n t) = dn_l g i := by
  intro u
  induction u using Nat.strongRecOn with
  | ind u ih =>
    intro o N hd hf i hi
    cases o with
    | none =>
      have := dn_nil hf
      omega
    | some c =>
      obtain ⟨h1, h2⟩ := hd c rfl
      have hp : ∀ q, sg_pr σ c = some q → q < c := fun q hq => hW.2.2.1 c q h2 hq
      have hln : ln_o (sg_pr σ) (some c) = c :: ln_o (sg_pr σ) (sg_pr σ c) := ln_e hp
      rw [hln] at hf
      have hd2 : ∀ d, sg_pr σ c = some d → d < c ∧ d < sg_nc σ := fun d hq => ⟨hp d hq, Nat.lt_trans (hp d hq) h2⟩
      have fin : ∀ N', (ln_o (sg_pr σ) (sg_pr σ c)).filterMap (fun c => sg_oo σ c n t) = dn_l g N' → i < N' → sg_oo σ (sg_mc σ (g i)) n t = some (g i) ∧ (∀ d, some c = some d → sg_mc σ (g i) ≤ d) ∧ (ln_o (sg_pr σ) (sg_pr σ (sg_mc σ (g i)))).filterMap (fun c => sg_oo σ c n t) = dn_l g i := by
        intro N' hf' hi'
        obtain ⟨a1, a2, a3⟩ := ih c h1 (sg_pr σ c) N' hd2 hf' i hi'
        refine ⟨a1, fun d hq => ?_, a3⟩
        cases hq
        cases hpc : sg_pr σ c with
        | none =>
          rw [hpc] at hf'
          have := dn_nil hf'
          omega
        | some q => exact Nat.le_of_lt (Nat.lt_of_le_of_lt (a2 q hpc) (hp q hpc))
      cases e : sg_oo σ c n t with
      | none =>
        rw [fm_n e] at hf
        exact fin N hf hi
      | some y =>
        rw [fm_s e] at hf
        obtain ⟨N', rfl, rfl, hf'⟩ := dn_cons hf
        by_cases hiN : i = N'
        · subst hiN
          have hcy : sg_mc σ (g i) = c := (oo_some e).2.1
          rw [hcy]
          exact ⟨e, fun d hq => by cases hq; exact Nat.le_refl _, hf'⟩
        · exact fin N' hf' (by omega)
theorem ov_eq {σ : sg_T} {n t r : Int32} {c N : Nat} {R K : Nat → Int32} {O : Nat → Nat → Bool} {g : Nat → Nat} (h : ov_t N R K O) {i : Nat} (hi : i < N) (hRr : R i = r) (hKc : K i = sg_pk σ c) (hR : ∀ k, k < i → R k = sg_rg σ (g k)) (hK : ∀ k, k < i → K k = sg_pk σ (sg_mc σ (g k)))
    (ho : ∀ k, k < i → sg_oo σ (sg_mc σ (g k)) n t = some (g k)) (hno : ∀ a b, a < i → b < i → g a = g b → a = b) (hf : (ln_o (sg_pr σ) (sg_pr σ c)).filterMap (fun c => sg_oo σ c n t) = dn_l g i) {j : Nat} (hj : j < i) : O i j = ov_r σ c n t r (g j) := by
  have hh := h i j hj hi
  unfold ov_r
  rw [← hR j hj]
  by_cases h1 : r = 0
  · rw [← hRr] at h1
    cases hO : O i j with
    | true => exact absurd h1 (hh.mp hO).1
    | false => rw [← hRr]; simp [h1]
  · by_cases h2 : R j = 0
    · cases hO : O i j with
      | true => exact absurd h2 (hh.mp hO).2.1
      | false => simp [h2]
    · rw [ov_wk h hi (by rw [hRr]; exact h1) hR hK ho hno (j := j) _ i [sg_pk σ c] (Nat.le_refl _) hj hf (fun v => ?_)]
      · simp [h1, h2]
      · rw [List.mem_singleton, hKc]
        constructor
        · exact fun q => Or.inl q
        · intro q
          rcases q with q | ⟨k, q1, q2, -⟩
          · exact q
          · omega
end
section
theorem oo_no {σ : sg_T} {c : Nat} {n t : Int32} (h : ∀ m, m < sg_nm σ → ¬ (sg_mc σ m = c ∧ sg_ob σ m = true ∧ sg_mn σ m = n ∧ sg_ty σ m = t)) : sg_oo σ c n t = none := by
  unfold sg_oo
  cases e : sg_ow σ c 1 n t with
  | none => rfl
  | some j =>
    obtain ⟨a1, a2, a3, a4, a5⟩ := ow_some e
    show (if sg_fx σ j = true then none else some j) = none
    by_cases hf : sg_fx σ j = true
    · rw [if_pos hf]
    · exact absurd ⟨a2, by simp [sg_ob, a3, hf], a4, a5⟩ (h j a1)
theorem oo_at {σ : sg_T} (hW : sg_W σ) {c m : Nat} {n t : Int32} (h1 : m < sg_nm σ) (h2 : sg_mc σ m = c) (h3 : sg_ob σ m = true) (h4 : sg_mn σ m = n) (h5 : sg_ty σ m = t) : sg_oo σ c n t = some m := by
  subst h2; subst h4; subst h5
  exact oo_is hW h1 h3
theorem oo_ob {σ : sg_T} {c m : Nat} {n t : Int32} (h : sg_oo σ c n t = some m) : sg_ob σ m = true := by
  obtain ⟨-, -, a, b, -⟩ := oo_some h
  simp [sg_ob, a, b]
def sr_g (g : Nat → Nat) (O : Nat → Bool) (j : Nat) : Nat → Nat
  | 0 => g j
  | k + 1 => if k ≤ j then g j else if O k then g k else sr_g g O j k
theorem sr_s (g : Nat → Nat) (O : Nat → Bool) (j k : Nat) : sr_g g O j (k + 1) = if k ≤ j then g j else if O k then g k else sr_g g O j k := rfl
theorem sr_le {g : Nat → Nat} {O : Nat → Bool} {j k : Nat} (h : k ≤ j + 1) : sr_g g O j k = g j := by
  cases k with
  | zero => rfl
  | succ k => rw [sr_s, if_pos (by omega)]
theorem sr_no {g : Nat → Nat} {O : Nat → Bool} {j k : Nat} (h : ∀ i, j < i → i < k → O i = false) : sr_g g O j k = g j := by
  induction k with
  | zero => rfl
  | succ k ih =>
    rw [sr_s]
    by_cases hk : k ≤ j
    · rw [if_pos hk]
    · rw [if_neg hk, h k (by omega) (by omega)]
      exact ih fun i h1 h2 => h i h1 (by omega)
theorem sr_ex {g : Nat → Nat} {O : Nat → Bool} {j k : Nat} (hg : ∀ a b, a < k → b < k → g a = g b → a = b) {i : Nat} (h1 : j < i) (h2 : i < k) (h3 : O i = true) : ¬ sr_g g O j k = g j := by
  induction k with
  | zero => omega
  | succ k ih =>
    rw [sr_s, if_neg (by omega)]
    by_cases hk : O k = true
    · rw [if_pos hk]
      exact fun q => absurd (hg k j (by omega) (by omega) q) (by omega)
    · rw [if_neg hk]
      have hik : ¬ i = k := fun q => by rw [q] at h3; exact hk h3
      exact ih (fun a b ha hb => hg a b (by omega) (by omega)) (by omega)
theorem cl_dn {σ : sg_T} {n t : Int32} {g : Nat → Nat} {O : Nat → Bool} {j : Nat} (hn : sg_mn σ (g j) = n) (ht : sg_ty σ (g j) = t) : ∀ (cs : List Nat) (N : Nat), cs.filterMap (fun c => sg_oo σ c n t) = dn_l g N → j < N → (∀ a b, a < N → b < N → g a = g b → a = b) → sg_oo σ (sg_mc σ (g j)) n t = some (g j) →
    (∀ i, j < i → i < N → O i = ov_r σ (sg_mc σ (g i)) n t (sg_rg σ (g i)) (g j)) → cl_l σ (g j) cs = sr_g g O j N := by
  intro cs
  induction cs with
  | nil =>
    intro N hf hj
    have := dn_nil hf
    omega
  | cons c cs ih =>
    intro N hf hj hg ho hO
    unfold cl_l
    rw [hn, ht]
    cases e : sg_oo σ c n t with
    | none =>
      have hne : ¬ c = sg_mc σ (g j) := fun q => by rw [q, ho] at e; cases e
      rw [if_neg hne]
      rw [fm_n e] at hf
      exact ih N hf hj hg ho hO
    | some y =>
      rw [fm_s e] at hf
      obtain ⟨N', rfl, rfl, hf'⟩ := dn_cons hf
      have hcy : sg_mc σ (g N') = c := (oo_some e).2.1
      rw [sr_s]
      by_cases hc : c = sg_mc σ (g j)
      · rw [if_pos hc]
        have h2 : sg_oo σ c n t = some (g j) := by rw [hc]; exact ho
        rw [e] at h2
        have hNj := hg N' j (by omega) hj (Option.some.inj h2)
        rw [if_pos (by omega)]
      · have hjN : j < N' := by
          by_cases q : j = N'
          · rw [q] at hc; exact absurd hcy.symm hc
          · omega
        rw [if_neg hc, if_neg (by omega)]
        show (if ov_r σ c n t (sg_rg σ (g N')) (g j) = true then g N' else cl_l σ (g j) cs) = _
        rw [hO N' hjN (by omega), hcy]
        rw [ih N' hf' hjN (fun a b ha hb => hg a b (by omega) (by omega)) ho (fun i h1 h2 => hO i h1 (by omega))]
theorem fb_any {σ : sg_T} {h : Nat} {n t : Int32} {st : Bool} {r : Int32} : ∀ cs : List Nat, fb_l σ h n t st r cs = (cs.filterMap (fun c => sg_oo σ c n t)).any (fun m => decide (¬ sg_rg σ m = 0) && (if st then sg_rc σ h m else (sg_fn σ m || decide (r < sg_rg σ m)) && ov_r σ h n t r m)) := by
  intro cs
  induction cs with
  | nil => rfl
  | cons c cs ih =>
    unfold fb_l fb_c
    cases e : sg_oo σ c n t with
    | none => rw [fm_n e, ih]; simp
    | some y => rw [fm_s e, ih]; simp
theorem dn_mem {g : Nat → Nat} {N : Nat} {y : Nat} : y ∈ dn_l g N ↔ ∃ j, j < N ∧ y = g j := by
  induction N with
  | zero => simp [dn_l]
  | succ N ih =>
    rw [dn_s, List.mem_cons, ih]
    constructor
    · intro q
      rcases q with q | ⟨j, h1, h2⟩
      · exact ⟨N, by omega, q⟩
      · exact ⟨j, by omega, h2⟩
    · intro ⟨j, h1, h2⟩
      by_cases hj : j = N
      · exact Or.inl (by rw [h2, hj])
      · exact Or.inr ⟨j, by omega, h2⟩
theorem cn_s (P : Nat → Bool) (n : Nat) : sg_cn P (n + 1) = sg_cn P n + (if P n then 1 else 0) := rfl
theorem cn_cg {P Q : Nat → Bool} {n : Nat} (h : ∀ i, i < n → P i = Q i) : sg_cn P n = sg_cn Q n := by
  induction n with
  | zero => rfl
  | succ n ih => rw [cn_s, cn_s, h n (Nat.lt_succ_self n), ih fun i hi => h i (Nat.lt_succ_of_lt hi)]
theorem cn_le (P : Nat → Bool) (n : Nat) : sg_cn P n ≤ n := by
  induction n with
  | zero => exact Nat.le_refl _
  | succ n ih =>
    rw [cn_s]
    split <;> omega
theorem cn_no {P : Nat → Bool} {n : Nat} (h : ∀ i, i < n → P i = false) : sg_cn P n = 0 := by
  induction n with
  | zero => rfl
  | succ n ih => rw [cn_s, h n (Nat.lt_succ_self n), ih fun i hi => h i (Nat.lt_succ_of_lt hi)]; rfl
theorem cn_nx {P Q : Nat → Bool} {n : Nat} : (fo_g P n = none → sg_cn (fun i => P i && Q i) n = 0) ∧ ∀ j, fo_g P n = some j → sg_cn (fun i => P i && Q i) n = sg_cn (fun i => P i && Q i) j + (if Q j then 1 else 0) := by
  induction n with
  | zero => exact ⟨fun _ => rfl, fun j h => by rw [fo_z] at h; cases h⟩
  | succ n ih =>
    by_cases hp : P n = true
    · refine ⟨fun h => ?_, fun j h => ?_⟩
      · rw [fo_s, if_pos hp] at h; cases h
      · rw [fo_s, if_pos hp] at h
        cases h
        rw [cn_s, hp, Bool.true_and]
    · have hp' : P n = false := by simpa using hp
      have e : sg_cn (fun i => P i && Q i) (n + 1) = sg_cn (fun i => P i && Q i) n := by
        rw [cn_s, hp', Bool.false_and]
        rfl
      refine ⟨fun h => ?_, fun j h => ?_⟩
      · rw [fo_s, if_neg hp] at h
        rw [e]; exact ih.1 h
      · rw [fo_s, if_neg hp] at h
        rw [e]; exact ih.2 j h
theorem cn_ln {f : Nat → Nat} {Q : Nat → Bool} {c : Nat} {cs : List Nat} (hc : ¬ c ∈ cs) (n : Nat) : sg_cn (fun m => decide (f m ∈ c :: cs) && Q m) n = sg_cn (fun m => decide (f m = c) && Q m) n + sg_cn (fun m => decide (f m ∈ cs) && Q m) n := by
  induction n with
  | zero => rfl
  | succ n ih =>
    rw [cn_s, cn_s, cn_s, ih]
    by_cases h1 : f n = c
    · have h2 : ¬ f n ∈ cs := by rw [h1]; exact hc
      cases hq : Q n <;> simp [h1, hc] <;> omega
    · cases hq : Q n
      · simp
      · by_cases h3 : f n ∈ cs
        · simp [h1, h3]; omega
        · simp [h1, h3]
theorem ln_lt {pr : Nat → Option Nat} {c : Nat} {o : Option Nat} (h : ∀ p, o = some p → p < c) : ¬ c ∈ ln_o pr o := fun q => by
  cases o with
  | none => cases q
  | some p => exact absurd (ln_le p c q) (by have := h p rfl; omega)
theorem lc_f {lp : Nat → Int32} {k : Nat} {v : Int32} (h : ∀ i, i < k → ¬ lp i = v) : ((List.range k).map lp).contains v = false := by
  cases e : ((List.range k).map lp).contains v with
  | false => rfl
  | true =>
    obtain ⟨i, h1, h2⟩ := List.mem_map.mp (li_ct.mp e)
    exact absurd h2 (h i (List.mem_range.mp h1))
theorem lc_t {lp : Nat → Int32} {k i : Nat} {v : Int32} (hi : i < k) (h : lp i = v) : ((List.range k).map lp).contains v = true := li_ct.mpr (List.mem_map.mpr ⟨i, List.mem_range.mpr hi, h⟩)
theorem lc_s {lp : Nat → Int32} {k : Nat} {v : Int32} : (List.range (k + 1)).map (upd lp k v) = (List.range k).map lp ++ [v] := by
  rw [List.range_succ, List.map_append]
  congr 1
  · refine List.map_congr_left fun i hi => ?_
    have h1 := List.mem_range.mp hi
    rw [upd, if_neg (by omega)]
  · simp [upd]
theorem nr_0 {σ : sg_T} {c : Nat} {k n t : Int32} {st : Bool} {r : Int32} (h : sg_nr σ c k n t st r = 0) : ¬ (n < 0 ∨ 99 < n ∨ r < 0 ∨ 3 < r) ∧ sg_ow σ c k n t = none ∧ ¬ 200 ≤ sg_nm σ := by
  unfold sg_nr at h
  by_cases h1 : n < 0 ∨ 99 < n ∨ r < 0 ∨ 3 < r
  · rw [if_pos h1] at h
    exact absurd h (by decide)
  · rw [if_neg h1] at h
    cases h2 : sg_ow σ c k n t with
    | some j =>
      rw [h2, if_pos (show (some j).isSome = true from rfl)] at h
      exact absurd h (by decide)
    | none =>
      rw [h2, if_neg (show ¬ (none : Option Nat).isSome = true by decide)] at h
      refine ⟨h1, rfl, fun h4 => ?_⟩
      by_cases h3 : k = 1 ∧ sg_fb σ c n t st r = true
      · rw [if_pos h3] at h
        exact absurd h (by decide)
      · rw [if_neg h3, if_pos h4] at h
        exact absurd h (by decide)
theorem rg_4 {r : Int32} (h1 : ¬ r < 0) (h2 : ¬ 3 < r) : r = 0 ∨ r = 1 ∨ r = 2 ∨ r = 3 := by
  obtain ⟨j, hj, rfl⟩ := nI_of h1
  have h3 : ¬ 3 < j := fun q => h2 ((nI_ltI (a := 3) (b := j) (by omega) hj).mpr q)
  have h4 : j = 0 ∨ j = 1 ∨ j = 2 ∨ j = 3 := by omega
  rcases h4 with rfl | rfl | rfl | rfl
  · exact Or.inl rfl
  · exact Or.inr (Or.inl rfl)
  · exact Or.inr (Or.inr (Or.inl rfl))
  · exact Or.inr (Or.inr (Or.inr rfl))
theorem up_lt {α : Type} {f : Nat → α} {n i : Nat} {v : α} (h : i < n) : va_up f n v i = f i := va_up_ne f v (by omega)
theorem sg_Wad {σ : sg_T} (hW : sg_W σ) {c : Nat} (hc : c < sg_nc σ) {k n t : Int32} {st fn : Bool} {r : Int32} (h : sg_nr σ c k n t st r = 0) (hk : (k = 0 ∧ t = 0) ∨ k = 1 ∨ (k = 2 ∧ n = 0)) : sg_W (sg_ad σ c k n t st fn r) := by
  obtain ⟨h1, h2, h3⟩ := nr_0 h
  have hrg := rg_4 (r := r) (fun q => h1 (Or.inr (Or.inr (Or.inl q)))) (fun q => h1 (Or.inr (Or.inr (Or.inr q))))
  have hno := fo_none h2
  have key : ∀ j, j < sg_nm σ → ¬ (sg_mc σ j = c ∧ sg_kd σ j = k ∧ sg_mn σ j = n ∧ sg_ty σ j = t) := fun j hj q => by
    have := hno j hj
    simp [sg_mk, q.1, q.2.1, q.2.2.1, q.2.2.2] at this
  refine ⟨hW.1, ?_, hW.2.2.1, fun m hm => ?_, fun m hm => ?_, fun m hm => ?_, fun i j hi hj => ?_⟩
  · show sg_nm σ + 1 ≤ 200
    omega
  · show va_up (sg_mc σ) (sg_nm σ) c m < sg_nc σ
    have hm : m < sg_nm σ + 1 := hm
    by_cases q : m = sg_nm σ
    · rw [q, va_up_self]; exact hc
    · rw [up_lt (by omega)]; exact hW.2.2.2.1 m (by omega)
  · show va_up (sg_rg σ) (sg_nm σ) r m = 0 ∨ va_up (sg_rg σ) (sg_nm σ) r m = 1 ∨ va_up (sg_rg σ) (sg_nm σ) r m = 2 ∨ va_up (sg_rg σ) (sg_nm σ) r m = 3
    have hm : m < sg_nm σ + 1 := hm
    by_cases q : m = sg_nm σ
    · rw [q, va_up_self]; exact hrg
    · rw [up_lt (by omega)]; exact hW.2.2.2.2.1 m (by omega)
  · show (va_up (sg_kd σ) (sg_nm σ) k m = 0 ∧ va_up (sg_ty σ) (sg_nm σ) t m = 0) ∨ va_up (sg_kd σ) (sg_nm σ) k m = 1 ∨ (va_up (sg_kd σ) (sg_nm σ) k m = 2 ∧ va_up (sg_mn σ) (sg_nm σ) n m = 0)
    have hm : m < sg_nm σ + 1 := hm
    by_cases q : m = sg_nm σ
    · rw [q, va_up_self, va_up_self, va_up_self]; exact hk
    · rw [up_lt (by omega), up_lt (by omega), up_lt (by omega)]; exact hW.2.2.2.2.2.1 m (by omega)
  · show va_up (sg_mc σ) (sg_nm σ) c i = va_up (sg_mc σ) (sg_nm σ) c j → va_up (sg_kd σ) (sg_nm σ) k i = va_up (sg_kd σ) (sg_nm σ) k j → va_up (sg_mn σ) (sg_nm σ) n i = va_up (sg_mn σ) (sg_nm σ) n j → va_up (sg_ty σ) (sg_nm σ) t i = va_up (sg_ty σ) (sg_nm σ) t j → i = j
    have hi : i < sg_nm σ + 1 := hi
    have hj : j < sg_nm σ + 1 := hj
    by_cases qi : i = sg_nm σ <;> by_cases qj : j = sg_nm σ
    · intros; omega
    · rw [qi, va_up_self, va_up_self, va_up_self, va_up_self, up_lt (show j < sg_nm σ by omega), up_lt (show j < sg_nm σ by omega), up_lt (show j < sg_nm σ by omega), up_lt (show j < sg_nm σ by omega)]
      exact fun a b d e => absurd ⟨a.symm, b.symm, d.symm, e.symm⟩ (key j (by omega))
    · rw [qj, va_up_self, va_up_self, va_up_self, va_up_self, up_lt (show i < sg_nm σ by omega), up_lt (show i < sg_nm σ by omega), up_lt (show i < sg_nm σ by omega), up_lt (show i < sg_nm σ by omega)]
      exact fun a b d e => absurd ⟨a, b, d, e⟩ (key i (by omega))
    · rw [up_lt (show i < sg_nm σ by omega), up_lt (show i < sg_nm σ by omega), up_lt (show i < sg_nm σ by omega), up_lt (show i < sg_nm σ by omega), up_lt (show j < sg_nm σ by omega), up_lt (show j < sg_nm σ by omega), up_lt (show j < sg_nm σ by omega), up_lt (show j < sg_nm σ by omega)]
      exact hW.2.2.2.2.2.2 i j (by omega) (by omega)
theorem sg_Wnw {σ : sg_T} (hW : sg_W σ) (h40 : sg_nc σ < 40) {o : Option Nat} (ho : ∀ p, o = some p → p < sg_nc σ) (k : Int32) : sg_W (sg_nw σ o k) := by
  refine ⟨?_, hW.2.1, fun c p hc => ?_, fun m hm => Nat.lt_succ_of_lt (hW.2.2.2.1 m hm), hW.2.2.2.2.1, hW.2.2.2.2.2.1, hW.2.2.2.2.2.2⟩
  · show sg_nc σ + 1 ≤ 40
    omega
  · show va_up (sg_pr σ) (sg_nc σ) o c = some p → p < c
    have hc : c < sg_nc σ + 1 := hc
    by_cases q : c = sg_nc σ
    · rw [q, va_up_self]; exact ho p
    · rw [up_lt (by omega)]; exact hW.2.2.1 c p (by omega)
theorem fi_lt {σ : sg_T} {n t w : Int32} : ∀ (cs : List Nat) (m : Nat), fi_l σ n t w cs = some m → m < sg_nm σ := by
  intro cs
  induction cs with
  | nil => intro m h; cases h
  | cons c cs ih =>
    intro m h
    unfold fi_l at h
    cases e : fi_c σ n t w c with
    | none => rw [e] at h; exact ih m h
    | some f =>
      rw [e] at h
      cases h
      unfold fi_c at e
      by_cases h4 : 4 ≤ w
      · rw [if_pos h4] at e; exact (ow_some e).1
      · rw [if_neg h4] at e
        cases e2 : sg_ow σ c 1 n t with
        | none => rw [e2] at e; cases e
        | some q =>
          rw [e2] at e
          dsimp only at e
          by_cases h5 : sg_fx σ q = decide (w = 0)
          · rw [if_pos h5] at e
            cases e
            exact (ow_some e2).1
          · rw [if_neg h5] at e; cases e
theorem fi_lt2 {σ : sg_T} {j m : Nat} {n t w : Int32} (h : sg_fi σ j n t w = some m) : m < sg_nm σ := by
  unfold sg_fi at h
  by_cases h3 : w = 3
  · rw [if_pos h3] at h; exact (ow_some h).1
  · rw [if_neg h3] at h; exact fi_lt _ m h
theorem cl_lt {σ : sg_T} {j : Nat} (hj : j < sg_nm σ) : ∀ cs : List Nat, cl_l σ j cs < sg_nm σ := by
  intro cs
  induction cs with
  | nil => exact hj
  | cons c cs ih =>
    unfold cl_l
    by_cases h : c = sg_mc σ j
    · rw [if_pos h]; exact hj
    · rw [if_neg h]
      cases e : sg_oo σ c (sg_mn σ j) (sg_ty σ j) with
      | none => exact ih
      | some x =>
        dsimp only
        by_cases h2 : ov_r σ c (sg_mn σ j) (sg_ty σ j) (sg_rg σ x) j = true
        · rw [if_pos h2]; exact (oo_some e).1
        · rw [if_neg h2]; exact ih
theorem cl_lt2 {σ : sg_T} {j c : Nat} (hj : j < sg_nm σ) : sg_cl σ j c < sg_nm σ := by
  unfold sg_cl
  by_cases h : sg_rg σ j = 0
  · rw [if_pos h]; exact hj
  · rw [if_neg h]; exact cl_lt hj _
end
section
abbrev xo_e (qc qm ql : Nat) (nc nm rf : Int32) : va_E := .inr (ciX, [.ref qc, .int nc, .ref qm, .int nm, .int rf, .ref ql])
abbrev xn_e (h : Nat) (k n t : Int32) (st fn : Bool) (r num : Int32) (e : Value) : va_E := .inr (ciN, [.ref h, .int k, .int n, .int t, .int (mb_i st), .int (mb_i fn), .int r, .int num, e])
def px_ (G : mw_G) (x qc qm ql : Nat) (v0 : Option Value) (σ : sg_T) (rf : Int32) (M : mw_M) : Option Value → mw_M → Prop := fun v M' => v = v0 ∧ (∃ (ca ma : Nat → Nat) (lp : Nat → Int32), xw_ G M' x qc qm ql ca ma σ rf lp) ∧ kx_ M M'
section XS
variable {G : mw_G} {M : mw_M} {x qc qm ql : Nat} {ca ma : Nat → Nat} {σ : sg_T} {rf : Int32} {lp : Nat → Int32}
theorem fo_ad {f : Nat → Nat} {n c i : Nat} (k : Nat) (hk : k ≤ n) : fo_g (fun m => decide (va_up f n c m = i)) k = fo_g (fun m => decide (f m = i)) k := fo_cg fun m hm => by rw [up_lt (by omega)]
theorem map_ad {ma : Nat → Nat} {n xa : Nat} {o : Option Nat} (h : ∀ i, o = some i → i < n) : o.map (va_up ma n xa) = o.map ma := by
  cases o with
  | none => rfl
  | some i => show some (va_up ma n xa i) = some (ma i); rw [up_lt (h i rfl)]
theorem xw_add (hw : xw_ G M x qc qm ql ca ma σ rf lp) {c xa : Nat} {e0 : va_E} {k n t r : Int32} {st fn : Bool} (hc : c < sg_nc σ) (hxa : M xa = some ((5, sg_nm σ), e0)) (hW : sg_W (sg_ad σ c k n t st fn r)) :
    xw_ G (mw_up (mw_up (mw_up (mw_up (mw_up M x ((0, 0), xo_e qc qm ql (nI (sg_nc σ)) (nI (sg_nm σ)) 0)) xa ((5, sg_nm σ), xn_e (ca c) k n t st fn r (nI (sg_nm σ)) (va_rf ((fo_g (fun m => decide (sg_mc σ m = c)) (sg_nm σ)).map ma)))) (ca c) ((4, c), .inr (ciC, [.int (nI c), va_rf ((sg_pr σ c).map ca), .int (sg_pk σ c), .ref xa]))) qm ((2, 0), aN_ G 200 (va_up (fun j => if j < sg_nm σ then some (ma j) else none) (sg_nm σ) (some xa)))) x ((0, 0), xo_e qc qm ql (nI (sg_nc σ)) (nI (sg_nm σ + 1)) 0))
      x qc qm ql ca (va_up ma (sg_nm σ) xa) (sg_ad σ c k n t st fn r) 0 lp := by
  have hcc := xw_c hw hc
  have n1 : qc ≠ x := ml_ne (xw_qc hw) (xw_x hw) (by simp)
  have n2 : qm ≠ x := ml_ne (xw_qm hw) (xw_x hw) (by simp)
  have n3 : ql ≠ x := ml_ne (xw_ql hw) (xw_x hw) (by simp)
  have n4 : xa ≠ x := ml_ne hxa (xw_x hw) (by simp)
  have n5 : ∀ i, i < sg_nc σ → ca i ≠ x := fun i hi => ml_ne (xw_c hw hi) (xw_x hw) (by simp)
  have n6 : ∀ j, j < sg_nm σ → ma j ≠ x := fun j hj => ml_ne (xw_m hw hj) (xw_x hw) (by simp)
  have m1 : qc ≠ qm := ml_ne (xw_qc hw) (xw_qm hw) (by simp)
  have m3 : ql ≠ qm := ml_ne (xw_ql hw) (xw_qm hw) (by simp)
  have m4 : xa ≠ qm := ml_ne hxa (xw_qm hw) (by simp)
  have m5 : ∀ i, i < sg_nc σ → ca i ≠ qm := fun i hi => ml_ne (xw_c hw hi) (xw_qm hw) (by simp)
  have m6 : ∀ j, j < sg_nm σ → ma j ≠ qm := fun j hj => ml_ne (xw_m hw hj) (xw_qm hw) (by simp)
  have c1 : qc ≠ ca c := ml_ne (xw_qc hw) hcc (by simp)
  have c3 : ql ≠ ca c := ml_ne (xw_ql hw) hcc (by simp)
  have c4 : xa ≠ ca c := ml_ne hxa hcc (by simp)
  have c5 : ∀ i, i < sg_nc σ → i ≠ c → ca i ≠ ca c := fun i hi hic => ml_ne (xw_c hw hi) hcc (by simp [hic])
  have c6 : ∀ j, j < sg_nm σ → ma j ≠ ca c := fun j hj => ml_ne (xw_m hw hj) hcc (by simp)
  have a1 : qc ≠ xa := ml_ne (xw_qc hw) hxa (by simp)
  have a2 : qm ≠ xa := ml_ne (xw_qm hw) hxa (by simp)
  have a3 : ql ≠ xa := ml_ne (xw_ql hw) hxa (by simp)
  have a5 : ∀ i, i < sg_nc σ → ca i ≠ xa := fun i hi => ml_ne (xw_c hw hi) hxa (by simp)
  have a6 : ∀ j, j < sg_nm σ → ma j ≠ xa := fun j hj => ml_ne (xw_m hw hj) hxa (by simp; omega)
  refine ⟨hW, ?_, ?_, ?_, ?_, fun i hi => ?_, fun j hj => ?_⟩
  · rw [mw_at]; rfl
  · rw [mw_ne n1, mw_ne m1, mw_ne c1, mw_ne a1, mw_ne n1]; have h9 := xw_qc hw; exact h9
  · rw [mw_ne n2, mw_at]
    congr 5
    funext j
    show va_up _ _ _ j = if j < sg_nm σ + 1 then some (va_up ma (sg_nm σ) xa j) else none
    by_cases hj : j = sg_nm σ
    · rw [hj, va_up_self, va_up_self, if_pos (by omega)]
    · rw [va_up_ne _ _ hj, va_up_ne _ _ hj]
      by_cases h2 : j < sg_nm σ
      · rw [if_pos h2, if_pos (by omega)]
      · rw [if_neg h2, if_neg (by omega)]
  · rw [mw_ne n3, mw_ne m3, mw_ne c3, mw_ne a3, mw_ne n3]; exact xw_ql hw
  · have hi : i < sg_nc σ := hi
    rw [mw_ne (n5 i hi), mw_ne (m5 i hi)]
    by_cases hic : i = c
    · subst hic
      rw [mw_at]
      show some ((4, i), (.inr (ciC, [.int (nI i), va_rf ((sg_pr σ i).map ca), .int (sg_pk σ i), .ref xa]) : va_E)) = some ((4, i), .inr (ciC, [.int (nI i), va_rf ((sg_pr σ i).map ca), .int (sg_pk σ i), va_rf ((fo_g (fun m => decide (va_up (sg_mc σ) (sg_nm σ) i m = i)) (sg_nm σ + 1)).map (va_up ma (sg_nm σ) xa))]))
      rw [fo_s, va_up_self, if_pos (by simp)]
      show _ = some ((4, i), (.inr (ciC, [.int (nI i), va_rf ((sg_pr σ i).map ca), .int (sg_pk σ i), va_rf (some (va_up ma (sg_nm σ) xa (sg_nm σ)))]) : va_E))
      rw [va_up_self]
      rfl
    · rw [mw_ne (c5 i hi hic), mw_ne (a5 i hi), mw_ne (n5 i hi), xw_c hw hi]
      show some ((4, i), xc_e ca ma σ i) = some ((4, i), (.inr (ciC, [.int (nI i), va_rf ((sg_pr σ i).map ca), .int (sg_pk σ i), va_rf ((fo_g (fun m => decide (va_up (sg_mc σ) (sg_nm σ) c m = i)) (sg_nm σ + 1)).map (va_up ma (sg_nm σ) xa))]) : va_E))
      rw [fo_s, va_up_self, if_neg (by simp; exact fun q => hic q.symm), fo_ad _ (Nat.le_refl _), map_ad (fun q hq => (fo_some hq).1)]
  · have hj : j < sg_nm σ + 1 := hj
    by_cases hjn : j = sg_nm σ
    · subst hjn
      rw [va_up_self, mw_ne n4, mw_ne m4, mw_ne c4, mw_at]
      show _ = some ((5, sg_nm σ), (.inr (ciN, [.ref (ca (va_up (sg_mc σ) (sg_nm σ) c (sg_nm σ))), .int (va_up (sg_kd σ) (sg_nm σ) k (sg_nm σ)), .int (va_up (sg_mn σ) (sg_nm σ) n (sg_nm σ)), .int (va_up (sg_ty σ) (sg_nm σ) t (sg_nm σ)), .int (mb_i (va_up (sg_fx σ) (sg_nm σ) st (sg_nm σ))), .int (mb_i (va_up (sg_fn σ) (sg_nm σ) fn (sg_nm σ))), .int (va_up (sg_rg σ) (sg_nm σ) r (sg_nm σ)), .int (nI (sg_nm σ)), va_rf ((fo_g (fun m => decide (va_up (sg_mc σ) (sg_nm σ) c m = va_up (sg_mc σ) (sg_nm σ) c (sg_nm σ))) (sg_nm σ)).map (va_up ma (sg_nm σ) xa))]) : va_E))
      rw [va_up_self, va_up_self, va_up_self, va_up_self, va_up_self, va_up_self, va_up_self, fo_ad _ (Nat.le_refl _), map_ad (fun q hq => (fo_some hq).1)]
    · have hj2 : j < sg_nm σ := by omega
      rw [up_lt hj2, mw_ne (n6 j hj2), mw_ne (m6 j hj2), mw_ne (c6 j hj2), mw_ne (a6 j hj2), mw_ne (n6 j hj2), xw_m hw hj2]
      show _ = some ((5, j), (.inr (ciN, [.ref (ca (va_up (sg_mc σ) (sg_nm σ) c j)), .int (va_up (sg_kd σ) (sg_nm σ) k j), .int (va_up (sg_mn σ) (sg_nm σ) n j), .int (va_up (sg_ty σ) (sg_nm σ) t j), .int (mb_i (va_up (sg_fx σ) (sg_nm σ) st j)), .int (mb_i (va_up (sg_fn σ) (sg_nm σ) fn j)), .int (va_up (sg_rg σ) (sg_nm σ) r j), .int (nI j), va_rf ((fo_g (fun m => decide (va_up (sg_mc σ) (sg_nm σ) c m = va_up (sg_mc σ) (sg_nm σ) c j)) j).map (va_up ma (sg_nm σ) xa))]) : va_E))
      rw [up_lt hj2, up_lt hj2, up_lt hj2, up_lt hj2, up_lt hj2, up_lt hj2, up_lt hj2, fo_ad _ (by omega), map_ad (fun q hq => by have := (fo_some hq).1; omega)]
theorem xw_new (hw : xw_ G M x qc qm ql ca ma σ rf lp) {q : Nat} {e0 : va_E} {o : Option Nat} {k : Int32} (hq : M q = some ((4, sg_nc σ), e0)) (ho : ∀ p, o = some p → p < sg_nc σ) (hW : sg_W (sg_nw σ o k)) :
    xw_ G (mw_up (mw_up (mw_up M q ((4, sg_nc σ), .inr (ciC, [.int (nI (sg_nc σ)), va_rf (o.map ca), .int k, .null]))) qc ((1, 0), aC_ G 40 (va_up (fun i => if i < sg_nc σ then some (ca i) else none) (sg_nc σ) (some q)))) x ((0, 0), xo_e qc qm ql (nI (sg_nc σ + 1)) (nI (sg_nm σ)) rf))
      x qc qm ql (va_up ca (sg_nc σ) q) ma (sg_nw σ o k) rf lp := by
  have hmc : ∀ m, m < sg_nm σ → sg_mc σ m < sg_nc σ := fun m hm => xw_mc hw hm
  have n1 : qc ≠ x := ml_ne (xw_qc hw) (xw_x hw) (by simp)
  have n2 : qm ≠ x := ml_ne (xw_qm hw) (xw_x hw) (by simp)
  have n3 : ql ≠ x := ml_ne (xw_ql hw) (xw_x hw) (by simp)
  have n4 : q ≠ x := ml_ne hq (xw_x hw) (by simp)
  have n5 : ∀ i, i < sg_nc σ → ca i ≠ x := fun i hi => ml_ne (xw_c hw hi) (xw_x hw) (by simp)
  have n6 : ∀ j, j < sg_nm σ → ma j ≠ x := fun j hj => ml_ne (xw_m hw hj) (xw_x hw) (by simp)
  have m2 : qm ≠ qc := ml_ne (xw_qm hw) (xw_qc hw) (by simp)
  have m3 : ql ≠ qc := ml_ne (xw_ql hw) (xw_qc hw) (by simp)
  have m4 : q ≠ qc := ml_ne hq (xw_qc hw) (by simp)
  have m5 : ∀ i, i < sg_nc σ → ca i ≠ qc := fun i hi => ml_ne (xw_c hw hi) (xw_qc hw) (by simp)
  have m6 : ∀ j, j < sg_nm σ → ma j ≠ qc := fun j hj => ml_ne (xw_m hw hj) (xw_qc hw) (by simp)
  have a2 : qm ≠ q := ml_ne (xw_qm hw) hq (by simp)
  have a3 : ql ≠ q := ml_ne (xw_ql hw) hq (by simp)
  have a5 : ∀ i, i < sg_nc σ → ca i ≠ q := fun i hi => ml_ne (xw_c hw hi) hq (by simp; omega)
  have a6 : ∀ j, j < sg_nm σ → ma j ≠ q := fun j hj => ml_ne (xw_m hw hj) hq (by simp)
  refine ⟨hW, ?_, ?_, ?_, ?_, fun i hi => ?_, fun j hj => ?_⟩
  · rw [mw_at]; rfl
  · rw [mw_ne n1, mw_at]
    congr 5
    funext j
    show va_up _ _ _ j = if j < sg_nc σ + 1 then some (va_up ca (sg_nc σ) q j) else none
    by_cases hj : j = sg_nc σ
    · rw [hj, va_up_self, va_up_self, if_pos (by omega)]
    · rw [va_up_ne _ _ hj, va_up_ne _ _ hj]
      by_cases h2 : j < sg_nc σ
      · rw [if_pos h2, if_pos (by omega)]
      · rw [if_neg h2, if_neg (by omega)]
  · rw [mw_ne n2, mw_ne m2, mw_ne a2]; have h9 := xw_qm hw; exact h9
  · rw [mw_ne n3, mw_ne m3, mw_ne a3]; exact xw_ql hw
  · have hi : i < sg_nc σ + 1 := hi
    by_cases hin : i = sg_nc σ
    · subst hin
      rw [va_up_self, mw_ne n4, mw_ne m4, mw_at]
      show _ = some ((4, sg_nc σ), (.inr (ciC, [.int (nI (sg_nc σ)), va_rf ((va_up (sg_pr σ) (sg_nc σ) o (sg_nc σ)).map (va_up ca (sg_nc σ) q)), .int (va_up (sg_pk σ) (sg_nc σ) k (sg_nc σ)), va_rf ((fo_g (fun m => decide (sg_mc σ m = sg_nc σ)) (sg_nm σ)).map ma)]) : va_E))
      rw [va_up_self, va_up_self, map_ad ho, fo_no (fun m hm => by have := hmc m hm; simp; omega)]
      rfl
    · have hi2 : i < sg_nc σ := by omega
      rw [up_lt hi2, mw_ne (n5 i hi2), mw_ne (m5 i hi2), mw_ne (a5 i hi2), xw_c hw hi2]
      show _ = some ((4, i), (.inr (ciC, [.int (nI i), va_rf ((va_up (sg_pr σ) (sg_nc σ) o i).map (va_up ca (sg_nc σ) q)), .int (va_up (sg_pk σ) (sg_nc σ) k i), va_rf ((fo_g (fun m => decide (sg_mc σ m = i)) (sg_nm σ)).map ma)]) : va_E))
      rw [up_lt hi2, up_lt hi2, map_ad (fun p hp => by have := xw_pr hw hi2 hp; omega)]
  · have hj : j < sg_nm σ := hj
    rw [mw_ne (n6 j hj), mw_ne (m6 j hj), mw_ne (a6 j hj), xw_m hw hj]
    show _ = some ((5, j), (.inr (ciN, [.ref (va_up ca (sg_nc σ) q (sg_mc σ j)), .int (sg_kd σ j), .int (sg_mn σ j), .int (sg_ty σ j), .int (mb_i (sg_fx σ j)), .int (mb_i (sg_fn σ j)), .int (sg_rg σ j), .int (nI j), va_rf ((fo_g (fun m => decide (sg_mc σ m = sg_mc σ j)) j).map ma)]) : va_E))
    rw [up_lt (hmc j hj)]
theorem xw_old (hw : xw_ G M x qc qm ql ca ma σ rf lp) {q : Nat} {z : (Nat × Nat) × va_E} (hq : M q = none) : xw_ G (mw_up M q z) x qc qm ql ca ma σ rf lp :=
  ⟨hw.1, mw_old hq (xw_x hw), mw_old hq (xw_qc hw), mw_old hq (xw_qm hw), mw_old hq (xw_ql hw), fun i hi => mw_old hq (xw_c hw hi), fun j hj => mw_old hq (xw_m hw hj)⟩
theorem xw_set5 (hw : xw_ G M x qc qm ql ca ma σ rf lp) {q : Nat} {e0 e1 : va_E} (hq : M q = some ((5, sg_nm σ), e0)) : xw_ G (mw_up M q ((5, sg_nm σ), e1)) x qc qm ql ca ma σ rf lp :=
  ⟨hw.1, mw_oth hq (xw_x hw) (by simp), mw_oth hq (xw_qc hw) (by simp), mw_oth hq (xw_qm hw) (by simp), mw_oth hq (xw_ql hw) (by simp), fun i hi => mw_oth hq (xw_c hw hi) (by simp), fun j hj => mw_oth hq (xw_m hw hj) (by simp; omega)⟩
theorem xw_set4 (hw : xw_ G M x qc qm ql ca ma σ rf lp) {q : Nat} {e0 e1 : va_E} (hq : M q = some ((4, sg_nc σ), e0)) : xw_ G (mw_up M q ((4, sg_nc σ), e1)) x qc qm ql ca ma σ rf lp :=
  ⟨hw.1, mw_oth hq (xw_x hw) (by simp), mw_oth hq (xw_qc hw) (by simp), mw_oth hq (xw_qm hw) (by simp), mw_oth hq (xw_ql hw) (by simp), fun i hi => mw_oth hq (xw_c hw hi) (by simp; omega), fun j hj => mw_oth hq (xw_m hw hj) (by simp)⟩
end XS
end
section
abbrev yo_e (q : Nat → Nat) (nc nm rf lk : Int32) : va_E := .inr (ciY, [.ref (q 0), .ref (q 1), .int nc, .ref (q 2), .ref (q 3), .ref (q 4), .ref (q 5), .ref (q 6), .ref (q 7), .ref (q 8), .int nm, .int rf, .ref (q 9), .int lk, .ref (q 10)])
def yr_ (G : mw_G) (M : mw_M) (y : Nat) (q : Nat → Nat) (nc nm rf : Int32) (f : Nat → Nat → Int32) (ch : Nat → Int32) (lk : Int32) (ov : Nat → Int32) : Prop :=
  M y = some ((10, 0), yo_e q nc nm rf lk) ∧
  M (q 0) = some ((11, 0), aI_ G 40 (f 0)) ∧
  M (q 1) = some ((12, 0), aI_ G 40 (f 1)) ∧
  M (q 2) = some ((13, 0), aI_ G 200 (f 2)) ∧
  M (q 3) = some ((14, 0), aI_ G 200 (f 3)) ∧
  M (q 4) = some ((15, 0), aI_ G 200 (f 4)) ∧
  M (q 5) = some ((16, 0), aI_ G 200 (f 5)) ∧
  M (q 6) = some ((17, 0), aI_ G 200 (f 6)) ∧
  M (q 7) = some ((18, 0), aZ_ G 200 (f 7)) ∧
  M (q 8) = some ((19, 0), aZ_ G 200 (f 8)) ∧
  M (q 9) = some ((20, 0), aI_ G 41 ch) ∧
  M (q 10) = some ((21, 0), aZ_ G 1681 ov)
def yc_ (σ : sg_T) (f : Nat → Nat → Int32) : Prop := (∀ i, i < sg_nc σ → f 0 i = eo_i (sg_pr σ i) ∧ f 1 i = sg_pk σ i) ∧ ∀ m, m < sg_nm σ → f 2 m = nI (sg_mc σ m) ∧ f 3 m = sg_mn σ m ∧ f 4 m = sg_rg σ m ∧ f 5 m = sg_kd σ m ∧ f 6 m = sg_ty σ m ∧ f 7 m = mb_i (sg_fx σ m) ∧ f 8 m = mb_i (sg_fn σ m)
def yw_ (G : mw_G) (M : mw_M) (y : Nat) (q : Nat → Nat) (σ : sg_T) (rf : Int32) (f : Nat → Nat → Int32) (ch : Nat → Int32) (lk : Int32) (ov : Nat → Int32) : Prop := sg_W σ ∧ yc_ σ f ∧ yr_ G M y q (nI (sg_nc σ)) (nI (sg_nm σ)) rf f ch lk ov
section YR
variable {G : mw_G} {M : mw_M} {y : Nat} {q : Nat → Nat} {nc nm rf : Int32} {f : Nat → Nat → Int32} {ch : Nat → Int32} {lk : Int32} {ov : Nat → Int32}
theorem yr_y (h : yr_ G M y q nc nm rf f ch lk ov) : M y = some ((10, 0), yo_e q nc nm rf lk) := h.1
theorem yr_0 (h : yr_ G M y q nc nm rf f ch lk ov) : M (q 0) = some ((11, 0), aI_ G 40 (f 0)) := h.2.1
theorem yr_1 (h : yr_ G M y q nc nm rf f ch lk ov) : M (q 1) = some ((12, 0), aI_ G 40 (f 1)) := h.2.2.1
theorem yr_2 (h : yr_ G M y q nc nm rf f ch lk ov) : M (q 2) = some ((13, 0), aI_ G 200 (f 2)) := h.2.2.2.1
theorem yr_3 (h : yr_ G M y q nc nm rf f ch lk ov) : M (q 3) = some ((14, 0), aI_ G 200 (f 3)) := h.2.2.2.2.1
theorem yr_4 (h : yr_ G M y q nc nm rf f ch lk ov) : M (q 4) = some ((15, 0), aI_ G 200 (f 4)) := h.2.2.2.2.2.1
theorem yr_5 (h : yr_ G M y q nc nm rf f ch lk ov) : M (q 5) = some ((16, 0), aI_ G 200 (f 5)) := h.2.2.2.2.2.2.1
theorem yr_6 (h : yr_ G M y q nc nm rf f ch lk ov) : M (q 6) = some ((17, 0), aI_ G 200 (f 6)) := h.2.2.2.2.2.2.2.1
theorem yr_7 (h : yr_ G M y q nc nm rf f ch lk ov) : M (q 7) = some ((18, 0), aZ_ G 200 (f 7)) := h.2.2.2.2.2.2.2.2.1
theorem yr_8 (h : yr_ G M y q nc nm rf f ch lk ov) : M (q 8) = some ((19, 0), aZ_ G 200 (f 8)) := h.2.2.2.2.2.2.2.2.2.1
theorem yr_9 (h : yr_ G M y q nc nm rf f ch lk ov) : M (q 9) = some ((20, 0), aI_ G 41 ch) := h.2.2.2.2.2.2.2.2.2.2.1
theorem yr_10 (h : yr_ G M y q nc nm rf f ch lk ov) : M (q 10) = some ((21, 0), aZ_ G 1681 ov) := h.2.2.2.2.2.2.2.2.2.2.2
theorem yr_sy (h : yr_ G M y q nc nm rf f ch lk ov) (nc' nm' rf' lk' : Int32) : yr_ G (mw_up M y ((10, 0), yo_e q nc' nm' rf' lk')) y q nc' nm' rf' f ch lk' ov := by
  have zy := yr_y h
  have z0 := yr_0 h
  have z1 := yr_1 h
  have z2 := yr_2 h
  have z3 := yr_3 h
  have z4 := yr_4 h
  have z5 := yr_5 h
  have z6 := yr_6 h
  have z7 := yr_7 h
  have z8 := yr_8 h
  have z9 := yr_9 h
  have z10 := yr_10 h
  exact ⟨mw_at, mw_oth zy z0 (by decide), mw_oth zy z1 (by decide), mw_oth zy z2 (by decide), mw_oth zy z3 (by decide), mw_oth zy z4 (by decide), mw_oth zy z5 (by decide), mw_oth zy z6 (by decide), mw_oth zy z7 (by decide), mw_oth zy z8 (by decide), mw_oth zy z9 (by decide), mw_oth zy z10 (by decide)⟩
theorem yr_s0 (h : yr_ G M y q nc nm rf f ch lk ov) (g : Nat → Int32) : yr_ G (mw_up M (q 0) ((11, 0), aI_ G 40 g)) y q nc nm rf (va_up f 0 g) ch lk ov := by
  have zy := yr_y h
  have z0 := yr_0 h
  have z1 := yr_1 h
  have z2 := yr_2 h
  have z3 := yr_3 h
  have z4 := yr_4 h
  have z5 := yr_5 h
  have z6 := yr_6 h
  have z7 := yr_7 h
  have z8 := yr_8 h
  have z9 := yr_9 h
  have z10 := yr_10 h
  exact ⟨mw_oth z0 zy (by decide), mw_at, mw_oth z0 z1 (by decide), mw_oth z0 z2 (by decide), mw_oth z0 z3 (by decide), mw_oth z0 z4 (by decide), mw_oth z0 z5 (by decide), mw_oth z0 z6 (by decide), mw_oth z0 z7 (by decide), mw_oth z0 z8 (by decide), mw_oth z0 z9 (by decide), mw_oth z0 z10 (by decide)⟩
theorem yr_s1 (h : yr_ G M y q nc nm rf f ch lk ov) (g : Nat → Int32) : yr_ G (mw_up M (q 1) ((12, 0), aI_ G 40 g)) y q nc nm rf (va_up f 1 g) ch lk ov := by
  have zy := yr_y h
  have z0 := yr_0 h
  have z1 := yr_1 h
  have z2 := yr_2 h
  have z3 := yr_3 h
  have z4 := yr_4 h
  have z5 := yr_5 h
  have z6 := yr_6 h
  have z7 := yr_7 h
  have z8 := yr_8 h
  have z9 := yr_9 h
  have z10 := yr_10 h
  exact ⟨mw_oth z1 zy (by decide), mw_oth z1 z0 (by decide), mw_at, mw_oth z1 z2 (by decide), mw_oth z1 z3 (by decide), mw_oth z1 z4 (by decide), mw_oth z1 z5 (by decide), mw_oth z1 z6 (by decide), mw_oth z1 z7 (by decide), mw_oth z1 z8 (by decide), mw_oth z1 z9 (by decide), mw_oth z1 z10 (by decide)⟩
theorem yr_s2 (h : yr_ G M y q nc nm rf f ch lk ov) (g : Nat → Int32) : yr_ G (mw_up M (q 2) ((13, 0), aI_ G 200 g)) y q nc nm rf (va_up f 2 g) ch lk ov := by
  have zy := yr_y h
  have z0 := yr_0 h
  have z1 := yr_1 h
  have z2 := yr_2 h
  have z3 := yr_3 h
  have z4 := yr_4 h
  have z5 := yr_5 h
  have z6 := yr_6 h
  have z7 := yr_7 h
  have z8 := yr_8 h
  have z9 := yr_9 h
  have z10 := yr_10 h
  exact ⟨mw_oth z2 zy (by decide), mw_oth z2 z0 (by decide), mw_oth z2 z1 (by decide), mw_at, mw_oth z2 z3 (by decide), mw_oth z2 z4 (by decide), mw_oth z2 z5 (by decide), mw_oth z2 z6 (by decide), mw_oth z2 z7 (by decide), mw_oth z2 z8 (by decide), mw_oth z2 z9 (by decide), mw_oth z2 z10 (by decide)⟩
theorem yr_s3 (h : yr_ G M y q nc nm rf f ch lk ov) (g : Nat → Int32) : yr_ G (mw_up M (q 3) ((14, 0), aI_ G 200 g)) y q nc nm rf (va_up f 3 g) ch lk ov := by
  have zy := yr_y h
  have z0 := yr_0 h
  have z1 := yr_1 h
  have z2 := yr_2 h
  have z3 := yr_3 h
  have z4 := yr_4 h
  have z5 := yr_5 h
  have z6 := yr_6 h
  have z7 := yr_7 h
  have z8 := yr_8 h
  have z9 := yr_9 h
  have z10 := yr_10 h
  exact ⟨mw_oth z3 zy (by decide), mw_oth z3 z0 (by decide), mw_oth z3 z1 (by decide), mw_oth z3 z2 (by decide), mw_at, mw_oth z3 z4 (by decide), mw_oth z3 z5 (by decide), mw_oth z3 z6 (by decide), mw_oth z3 z7 (by decide), mw_oth z3 z8 (by decide), mw_oth z3 z9 (by decide), mw_oth z3 z10 (by decide)⟩
theorem yr_s4 (h : yr_ G M y q nc nm rf f ch lk ov) (g : Nat → Int32) : yr_ G (mw_up M (q 4) ((15, 0), aI_ G 200 g)) y q nc nm rf (va_up f 4 g) ch lk ov := by
  have zy := yr_y h
  have z0 := yr_0 h
  have z1 := yr_1 h
  have z2 := yr_2 h
  have z3 := yr_3 h
  have z4 := yr_4 h
  have z5 := yr_5 h
  have z6 := yr_6 h
  have z7 := yr_7 h
  have z8 := yr_8 h
  have z9 := yr_9 h
  have z10 := yr_10 h
  exact ⟨mw_oth z4 zy (by decide), mw_oth z4 z0 (by decide), mw_oth z4 z1 (by decide), mw_oth z4 z2 (by decide), mw_oth z4 z3 (by decide), mw_at, mw_oth z4 z5 (by decide), mw_oth z4 z6 (by decide), mw_oth z4 z7 (by decide), mw_oth z4 z8 (by decide), mw_oth z4 z9 (by decide), mw_oth z4 z10 (by decide)⟩
theorem yr_s5 (h : yr_ G M y q nc nm rf f ch lk ov) (g : Nat → Int32) : yr_ G (mw_up M (q 5) ((16, 0), aI_ G 200 g)) y q nc nm rf (va_up f 5 g) ch lk ov := by
  have zy := yr_y h
  have z0 := yr_0 h
  have z1 := yr_1 h
  have z2 := yr_2 h
  have z3 := yr_3 h
  have z4 := yr_4 h
  have z5 := yr_5 h
  have z6 := yr_6 h
  have z7 := yr_7 h
  have z8 := yr_8 h
  have z9 := yr_9 h
  have z10 := yr_10 h
  exact ⟨mw_oth z5 zy (by decide), mw_oth z5 z0 (by decide), mw_oth z5 z1 (by decide), mw_oth z5 z2 (by decide), mw_oth z5 z3 (by decide), mw_oth z5 z4 (by decide), mw_at, mw_oth z5 z6 (by decide), mw_oth z5 z7 (by decide), mw_oth z5 z8 (by decide), mw_oth z5 z9 (by decide), mw_oth z5 z10 (by decide)⟩
theorem yr_s6 (h : yr_ G M y q nc nm rf f ch lk ov) (g : Nat → Int32) : yr_ G (mw_up M (q 6) ((17, 0), aI_ G 200 g)) y q nc nm rf (va_up f 6 g) ch lk ov := by
  have zy := yr_y h
  have z0 := yr_0 h
  have z1 := yr_1 h
  have z2 := yr_2 h
  have z3 := yr_3 h
  have z4 := yr_4 h
  have z5 := yr_5 h
  have z6 := yr_6 h
  have z7 := yr_7 h
  have z8 := yr_8 h
  have z9 := yr_9 h
  have z10 := yr_10 h
  exact ⟨mw_oth z6 zy (by decide), mw_oth z6 z0 (by decide), mw_oth z6 z1 (by decide), mw_oth z6 z2 (by decide), mw_oth z6 z3 (by decide), mw_oth z6 z4 (by decide), mw_oth z6 z5 (by decide), mw_at, mw_oth z6 z7 (by decide), mw_oth z6 z8 (by decide), mw_oth z6 z9 (by decide), mw_oth z6 z10 (by decide)⟩
theorem yr_s7 (h : yr_ G M y q nc nm rf f ch lk ov) (g : Nat → Int32) : yr_ G (mw_up M (q 7) ((18, 0), aZ_ G 200 g)) y q nc nm rf (va_up f 7 g) ch lk ov := by
  have zy := yr_y h
  have z0 := yr_0 h
  have z1 := yr_1 h
  have z2 := yr_2 h
  have z3 := yr_3 h
  have z4 := yr_4 h
  have z5 := yr_5 h
  have z6 := yr_6 h
  have z7 := yr_7 h
  have z8 := yr_8 h
  have z9 := yr_9 h
  have z10 := yr_10 h
  exact ⟨mw_oth z7 zy (by decide), mw_oth z7 z0 (by decide), mw_oth z7 z1 (by decide), mw_oth z7 z2 (by decide), mw_oth z7 z3 (by decide), mw_oth z7 z4 (by decide), mw_oth z7 z5 (by decide), mw_oth z7 z6 (by decide), mw_at, mw_oth z7 z8 (by decide), mw_oth z7 z9 (by decide), mw_oth z7 z10 (by decide)⟩
theorem yr_s8 (h : yr_ G M y q nc nm rf f ch lk ov) (g : Nat → Int32) : yr_ G (mw_up M (q 8) ((19, 0), aZ_ G 200 g)) y q nc nm rf (va_up f 8 g) ch lk ov := by
  have zy := yr_y h
  have z0 := yr_0 h
  have z1 := yr_1 h
  have z2 := yr_2 h
  have z3 := yr_3 h
  have z4 := yr_4 h
  have z5 := yr_5 h
  have z6 := yr_6 h
  have z7 := yr_7 h
  have z8 := yr_8 h
  have z9 := yr_9 h
  have z10 := yr_10 h
  exact ⟨mw_oth z8 zy (by decide), mw_oth z8 z0 (by decide), mw_oth z8 z1 (by decide), mw_oth z8 z2 (by decide), mw_oth z8 z3 (by decide), mw_oth z8 z4 (by decide), mw_oth z8 z5 (by decide), mw_oth z8 z6 (by decide), mw_oth z8 z7 (by decide), mw_at, mw_oth z8 z9 (by decide), mw_oth z8 z10 (by decide)⟩
theorem yr_s9 (h : yr_ G M y q nc nm rf f ch lk ov) (g : Nat → Int32) : yr_ G (mw_up M (q 9) ((20, 0), aI_ G 41 g)) y q nc nm rf f g lk ov := by
  have zy := yr_y h
  have z0 := yr_0 h
  have z1 := yr_1 h
  have z2 := yr_2 h
  have z3 := yr_3 h
  have z4 := yr_4 h
  have z5 := yr_5 h
  have z6 := yr_6 h
  have z7 := yr_7 h
  have z8 := yr_8 h
  have z9 := yr_9 h
  have z10 := yr_10 h
  exact ⟨mw_oth z9 zy (by decide), mw_oth z9 z0 (by decide), mw_oth z9 z1 (by decide), mw_oth z9 z2 (by decide), mw_oth z9 z3 (by decide), mw_oth z9 z4 (by decide), mw_oth z9 z5 (by decide), mw_oth z9 z6 (by decide), mw_oth z9 z7 (by decide), mw_oth z9 z8 (by decide), mw_at, mw_oth z9 z10 (by decide)⟩
theorem yr_s10 (h : yr_ G M y q nc nm rf f ch lk ov) (g : Nat → Int32) : yr_ G (mw_up M (q 10) ((21, 0), aZ_ G 1681 g)) y q nc nm rf f ch lk g := by
  have zy := yr_y h
  have z0 := yr_0 h
  have z1 := yr_1 h
  have z2 := yr_2 h
  have z3 := yr_3 h
  have z4 := yr_4 h
  have z5 := yr_5 h
  have z6 := yr_6 h
  have z7 := yr_7 h
  have z8 := yr_8 h
  have z9 := yr_9 h
  have z10 := yr_10 h
  exact ⟨mw_oth z10 zy (by decide), mw_oth z10 z0 (by decide), mw_oth z10 z1 (by decide), mw_oth z10 z2 (by decide), mw_oth z10 z3 (by decide), mw_oth z10 z4 (by decide), mw_oth z10 z5 (by decide), mw_oth z10 z6 (by decide), mw_oth z10 z7 (by decide), mw_oth z10 z8 (by decide), mw_oth z10 z9 (by decide), mw_at⟩
theorem yr_kx {M' : mw_M} (h : yr_ G M y q nc nm rf f ch lk ov) (k : kx_ M M') : yr_ G M' y q nc nm rf f ch lk ov := ⟨k _ _ _ (yr_y h) (by decide), k _ _ _ (yr_0 h) (by decide), k _ _ _ (yr_1 h) (by decide), k _ _ _ (yr_2 h) (by decide), k _ _ _ (yr_3 h) (by decide), k _ _ _ (yr_4 h) (by decide), k _ _ _ (yr_5 h) (by decide), k _ _ _ (yr_6 h) (by decide), k _ _ _ (yr_7 h) (by decide), k _ _ _ (yr_8 h) (by decide), k _ _ _ (yr_9 h) (by decide), k _ _ _ (yr_10 h) (by decide)⟩
end YR
section YW
variable {G : mw_G} {M : mw_M} {y : Nat} {q : Nat → Nat} {σ : sg_T} {rf : Int32} {f : Nat → Nat → Int32} {ch : Nat → Int32} {lk : Int32} {ov : Nat → Int32}
theorem yw_nc (h : yw_ G M y q σ rf f ch lk ov) : sg_nc σ ≤ 40 := h.1.1
theorem yw_nm (h : yw_ G M y q σ rf f ch lk ov) : sg_nm σ ≤ 200 := h.1.2.1
theorem yw_pr (h : yw_ G M y q σ rf f ch lk ov) {c p : Nat} (hc : c < sg_nc σ) (hp : sg_pr σ c = some p) : p < c := h.1.2.2.1 c p hc hp
theorem yw_mc (h : yw_ G M y q σ rf f ch lk ov) {m : Nat} (hm : m < sg_nm σ) : sg_mc σ m < sg_nc σ := h.1.2.2.2.1 m hm
theorem yw_y (h : yw_ G M y q σ rf f ch lk ov) : M y = some ((10, 0), yo_e q (nI (sg_nc σ)) (nI (sg_nm σ)) rf lk) := yr_y h.2.2
theorem yw_0 (h : yw_ G M y q σ rf f ch lk ov) : M (q 0) = some ((11, 0), aI_ G 40 (f 0)) := yr_0 h.2.2
theorem yw_1 (h : yw_ G M y q σ rf f ch lk ov) : M (q 1) = some ((12, 0), aI_ G 40 (f 1)) := yr_1 h.2.2
theorem yw_2 (h : yw_ G M y q σ rf f ch lk ov) : M (q 2) = some ((13, 0), aI_ G 200 (f 2)) := yr_2 h.2.2
theorem yw_3 (h : yw_ G M y q σ rf f ch lk ov) : M (q 3) = some ((14, 0), aI_ G 200 (f 3)) := yr_3 h.2.2
theorem yw_4 (h : yw_ G M y q σ rf f ch lk ov) : M (q 4) = some ((15, 0), aI_ G 200 (f 4)) := yr_4 h.2.2
theorem yw_5 (h : yw_ G M y q σ rf f ch lk ov) : M (q 5) = some ((16, 0), aI_ G 200 (f 5)) := yr_5 h.2.2
theorem yw_6 (h : yw_ G M y q σ rf f ch lk ov) : M (q 6) = some ((17, 0), aI_ G 200 (f 6)) := yr_6 h.2.2
theorem yw_7 (h : yw_ G M y q σ rf f ch lk ov) : M (q 7) = some ((18, 0), aZ_ G 200 (f 7)) := yr_7 h.2.2
theorem yw_8 (h : yw_ G M y q σ rf f ch lk ov) : M (q 8) = some ((19, 0), aZ_ G 200 (f 8)) := yr_8 h.2.2
theorem yw_9 (h : yw_ G M y q σ rf f ch lk ov) : M (q 9) = some ((20, 0), aI_ G 41 ch) := yr_9 h.2.2
theorem yw_10 (h : yw_ G M y q σ rf f ch lk ov) : M (q 10) = some ((21, 0), aZ_ G 1681 ov) := yr_10 h.2.2
theorem yv_0 (h : yw_ G M y q σ rf f ch lk ov) {c : Nat} (hc : c < sg_nc σ) : f 0 c = eo_i (sg_pr σ c) := (h.2.1.1 c hc).1
theorem yv_1 (h : yw_ G M y q σ rf f ch lk ov) {c : Nat} (hc : c < sg_nc σ) : f 1 c = sg_pk σ c := (h.2.1.1 c hc).2
theorem yv_2 (h : yw_ G M y q σ rf f ch lk ov) {m : Nat} (hm : m < sg_nm σ) : f 2 m = nI (sg_mc σ m) := (h.2.1.2 m hm).1
theorem yv_3 (h : yw_ G M y q σ rf f ch lk ov) {m : Nat} (hm : m < sg_nm σ) : f 3 m = sg_mn σ m := (h.2.1.2 m hm).2.1
theorem yv_4 (h : yw_ G M y q σ rf f ch lk ov) {m : Nat} (hm : m < sg_nm σ) : f 4 m = sg_rg σ m := (h.2.1.2 m hm).2.2.1
theorem yv_5 (h : yw_ G M y q σ rf f ch lk ov) {m : Nat} (hm : m < sg_nm σ) : f 5 m = sg_kd σ m := (h.2.1.2 m hm).2.2.2.1
theorem yv_6 (h : yw_ G M y q σ rf f ch lk ov) {m : Nat} (hm : m < sg_nm σ) : f 6 m = sg_ty σ m := (h.2.1.2 m hm).2.2.2.2.1
theorem yv_7 (h : yw_ G M y q σ rf f ch lk ov) {m : Nat} (hm : m < sg_nm σ) : f 7 m = mb_i (sg_fx σ m) := (h.2.1.2 m hm).2.2.2.2.2.1
theorem yv_8 (h : yw_ G M y q σ rf f ch lk ov) {m : Nat} (hm : m < sg_nm σ) : f 8 m = mb_i (sg_fn σ m) := (h.2.1.2 m hm).2.2.2.2.2.2
theorem yw_rf (h : yw_ G M y q σ rf f ch lk ov) (rf' lk' : Int32) : yw_ G (mw_up M y ((10, 0), yo_e q (nI (sg_nc σ)) (nI (sg_nm σ)) rf' lk')) y q σ rf' f ch lk' ov := ⟨h.1, h.2.1, yr_sy h.2.2 _ _ _ _⟩
theorem yw_ch (h : yw_ G M y q σ rf f ch lk ov) (ch' : Nat → Int32) : yw_ G (mw_up M (q 9) ((20, 0), aI_ G 41 ch')) y q σ rf f ch' lk ov := ⟨h.1, h.2.1, yr_s9 h.2.2 _⟩
theorem yw_ov (h : yw_ G M y q σ rf f ch lk ov) (ov' : Nat → Int32) : yw_ G (mw_up M (q 10) ((21, 0), aZ_ G 1681 ov')) y q σ rf f ch lk ov' := ⟨h.1, h.2.1, yr_s10 h.2.2 _⟩
theorem yw_kx {M' : mw_M} (h : yw_ G M y q σ rf f ch lk ov) (k : kx_ M M') : yw_ G M' y q σ rf f ch lk ov := ⟨h.1, h.2.1, yr_kx h.2.2 k⟩
end YW
def py_ (G : mw_G) (y : Nat) (q : Nat → Nat) (v0 : Option Value) (σ : sg_T) (rf : Int32) (M : mw_M) : Option Value → mw_M → Prop := fun v M' => v = v0 ∧ (∃ (f : Nat → Nat → Int32) (ch : Nat → Int32) (lk : Int32) (ov : Nat → Int32), yw_ G M' y q σ rf f ch lk ov) ∧ ky_ M M'
def pz_ (G : mw_G) (y : Nat) (q : Nat → Nat) (v0 : Option Value) (σ : sg_T) (rf : Int32) (f : Nat → Nat → Int32) (M : mw_M) (R : (Nat → Int32) → Int32 → (Nat → Int32) → Prop) : Option Value → mw_M → Prop := fun v M' => v = v0 ∧ ∃ (ch : Nat → Int32) (lk : Int32) (ov : Nat → Int32), yw_ G M' y q σ rf f ch lk ov ∧ ky_ M M' ∧ R ch lk ov
theorem up_at {g : Nat → Int32} {n : Nat} {v : Int32} : upd g n v n = v := by simp [upd]
theorem up_ol {g : Nat → Int32} {n i : Nat} {v : Int32} (h : i < n) : upd g n v i = g i := by
  rw [upd, if_neg (by omega)]
theorem yc_nw {σ : sg_T} {f : Nat → Nat → Int32} (h : yc_ σ f) (o : Option Nat) (k : Int32) : yc_ (sg_nw σ o k) (va_up (va_up f 0 (upd (f 0) (sg_nc σ) (eo_i o))) 1 (upd (f 1) (sg_nc σ) k)) := by
  refine ⟨fun i hi => ?_, h.2⟩
  have hi : i < sg_nc σ + 1 := hi
  show upd (f 0) (sg_nc σ) (eo_i o) i = eo_i (va_up (sg_pr σ) (sg_nc σ) o i) ∧ upd (f 1) (sg_nc σ) k i = va_up (sg_pk σ) (sg_nc σ) k i
  by_cases q : i = sg_nc σ
  · subst q
    rw [up_at, up_at, va_up_self, va_up_self]
    exact ⟨rfl, rfl⟩
  · rw [up_ol (by omega), up_ol (by omega), up_lt (by omega), up_lt (by omega)]
    exact h.1 i (by omega)
abbrev yt_f (σ : sg_T) (f : Nat → Nat → Int32) (c : Nat) (k n t : Int32) (st fn : Bool) (r : Int32) : Nat → Nat → Int32 := va_up (va_up (va_up (va_up (va_up (va_up (va_up f 2 (upd (f 2) (sg_nm σ) (nI c))) 3 (upd (f 3) (sg_nm σ) n)) 5 (upd (f 5) (sg_nm σ) k)) 6 (upd (f 6) (sg_nm σ) t)) 7 (upd (f 7) (sg_nm σ) (mb_i st))) 8 (upd (f 8) (sg_nm σ) (mb_i fn))) 4 (upd (f 4) (sg_nm σ) r)
theorem yc_tl {σ : sg_T} {f : Nat → Nat → Int32} (h : yc_ σ f) (c : Nat) (k n t : Int32) (st fn : Bool) (r : Int32) : yc_ σ (yt_f σ f c k n t st fn r) := by
  refine ⟨h.1, fun m hm => ?_⟩
  show upd (f 2) (sg_nm σ) (nI c) m = _ ∧ upd (f 3) (sg_nm σ) n m = _ ∧ upd (f 4) (sg_nm σ) r m = _ ∧ upd (f 5) (sg_nm σ) k m = _ ∧ upd (f 6) (sg_nm σ) t m = _ ∧ upd (f 7) (sg_nm σ) (mb_i st) m = _ ∧ upd (f 8) (sg_nm σ) (mb_i fn) m = _
  rw [up_ol hm, up_ol hm, up_ol hm, up_ol hm, up_ol hm, up_ol hm, up_ol hm]
  exact h.2 m hm
theorem yc_ad {σ : sg_T} {f : Nat → Nat → Int32} (h : yc_ σ f) (c : Nat) (k n t : Int32) (st fn : Bool) (r : Int32) : yc_ (sg_ad σ c k n t st fn r) (yt_f σ f c k n t st fn r) := by
  refine ⟨h.1, fun m hm => ?_⟩
  have hm : m < sg_nm σ + 1 := hm
  show upd (f 2) (sg_nm σ) (nI c) m = nI (va_up (sg_mc σ) (sg_nm σ) c m) ∧ upd (f 3) (sg_nm σ) n m = va_up (sg_mn σ) (sg_nm σ) n m ∧ upd (f 4) (sg_nm σ) r m = va_up (sg_rg σ) (sg_nm σ) r m ∧ upd (f 5) (sg_nm σ) k m = va_up (sg_kd σ) (sg_nm σ) k m ∧ upd (f 6) (sg_nm σ) t m = va_up (sg_ty σ) (sg_nm σ) t m ∧ upd (f 7) (sg_nm σ) (mb_i st) m = mb_i (va_up (sg_fx σ) (sg_nm σ) st m) ∧ upd (f 8) (sg_nm σ) (mb_i fn) m = mb_i (va_up (sg_fn σ) (sg_nm σ) fn m)
  by_cases q : m = sg_nm σ
  · subst q
    simp [up_at, va_up_self]
  · rw [up_ol (by omega), up_ol (by omega), up_ol (by omega), up_ol (by omega), up_ol (by omega), up_ol (by omega), up_ol (by omega), up_lt (by omega), up_lt (by omega), up_lt (by omega), up_lt (by omega), up_lt (by omega), up_lt (by omega), up_lt (by omega)]
    exact h.2 m (by omega)
end
section
def is_s (σ : sg_T) (n t w : Int32) (m : Nat) : Bool := if w = 3 then decide (sg_kd σ m = 2) && decide (sg_ty σ m = t) else decide (sg_mn σ m = n) && (if w ≤ 3 then decide (sg_kd σ m = 1) && (decide (sg_ty σ m = t) && decide (sg_fx σ m = decide (w = 0))) else decide (sg_kd σ m = 0))
theorem i3_43 {w : Int32} : 4 ≤ w ↔ ¬ w ≤ 3 := by
  rw [Int32.le_iff_toInt_le, Int32.le_iff_toInt_le, show (4 : Int32).toInt = 4 by decide, show (3 : Int32).toInt = 3 by decide]
  omega
theorem is_fi {σ : sg_T} (hW : sg_W σ) {n t w : Int32} {m d : Nat} (hm : m < sg_nm σ) (hc : sg_mc σ m = d) (h3 : ¬ w = 3) (hs : is_s σ n t w m = true) : fi_c σ n t w d = some m := by
  unfold is_s at hs
  rw [if_neg h3, Bool.and_eq_true] at hs
  obtain ⟨h1, h2⟩ := hs
  have h1 := of_decide_eq_true h1
  unfold fi_c
  by_cases hw : w ≤ 3
  · rw [if_pos hw, Bool.and_eq_true, Bool.and_eq_true] at h2
    obtain ⟨h4, h5, h6⟩ := h2
    rw [if_neg (fun z => i3_43.mp z hw), ow_is hW hm hc (of_decide_eq_true h4) h1 (of_decide_eq_true h5)]
    show (if sg_fx σ m = decide (w = 0) then some m else none) = some m
    rw [if_pos (of_decide_eq_true h6)]
  · rw [if_neg hw] at h2
    have hk := of_decide_eq_true h2
    have ht : sg_ty σ m = 0 := by
      rcases hW.2.2.2.2.2.1 m hm with q | q | q
      · exact q.2
      · rw [hk] at q; exact absurd q (by decide)
      · rw [hk] at q; exact absurd q.1 (by decide)
    rw [if_pos (i3_43.mpr hw)]
    exact ow_is hW hm hc hk h1 ht
theorem is_no {σ : sg_T} {n t w : Int32} {d : Nat} (h3 : ¬ w = 3) (h : ∀ m, m < sg_nm σ → ¬ (sg_mc σ m = d ∧ is_s σ n t w m = true)) : fi_c σ n t w d = none := by
  unfold fi_c
  by_cases hw : w ≤ 3
  · rw [if_neg (fun z => i3_43.mp z hw)]
    cases e : sg_ow σ d 1 n t with
    | none => rfl
    | some m =>
      obtain ⟨a1, a2, a3, a4, a5⟩ := ow_some e
      show (if sg_fx σ m = decide (w = 0) then some m else none) = none
      by_cases hf : sg_fx σ m = decide (w = 0)
      · refine absurd ⟨a2, ?_⟩ (h m a1)
        unfold is_s
        rw [if_neg h3, if_pos hw]
        simp [a3, a4, a5, hf]
      · rw [if_neg hf]
  · rw [if_pos (i3_43.mpr hw)]
    cases e : sg_ow σ d 0 n 0 with
    | none => rfl
    | some m =>
      obtain ⟨a1, a2, a3, a4, a5⟩ := ow_some e
      refine absurd ⟨a2, ?_⟩ (h m a1)
      unfold is_s
      rw [if_neg h3, if_neg hw]
      simp [a3, a4]
theorem is_3 {σ : sg_T} (hW : sg_W σ) {n t w : Int32} {m d : Nat} (hm : m < sg_nm σ) (hc : sg_mc σ m = d) (h3 : w = 3) (hs : is_s σ n t w m = true) : sg_ow σ d 2 0 t = some m := by
  unfold is_s at hs
  rw [if_pos h3, Bool.and_eq_true] at hs
  have hk := of_decide_eq_true hs.1
  have hn : sg_mn σ m = 0 := by
    rcases hW.2.2.2.2.2.1 m hm with q | q | q
    · rw [hk] at q; exact absurd q.1 (by decide)
    · rw [hk] at q; exact absurd q (by decide)
    · exact q.2
  exact ow_is hW hm hc hk hn (of_decide_eq_true hs.2)
theorem is_3n {σ : sg_T} {n t w : Int32} {d : Nat} (h3 : w = 3) (h : ∀ m, m < sg_nm σ → ¬ (sg_mc σ m = d ∧ is_s σ n t w m = true)) : sg_ow σ d 2 0 t = none := by
  refine ow_none fun m hm q => h m hm ⟨q.1, ?_⟩
  unfold is_s
  rw [if_pos h3]
  simp [q.2.1, q.2.2.2]
end
section
def la_ (A : List Nat) (p : Nat) : Nat := A.getD p 0
theorem la_lt {A : List Nat} {y p : Nat} (h : p < A.length) : la_ (A ++ [y]) p = la_ A p := by
  simp [la_, List.getD_eq_getElem?_getD, List.getElem?_append_left h]
theorem la_at {A : List Nat} {y : Nat} : la_ (A ++ [y]) A.length = y := by
  simp [la_, List.getD_eq_getElem?_getD]
theorem la_cons {y : Nat} {A : List Nat} {p : Nat} : la_ (y :: A) (p + 1) = la_ A p := rfl
theorem dn_la : ∀ (A : List Nat), dn_l (fun k => la_ A (A.length - 1 - k)) A.length = A := by
  have key : ∀ (A : List Nat) (g : Nat → Nat), (∀ p, p < A.length → g (A.length - 1 - p) = la_ A p) → dn_l g A.length = A := by
    intro A
    induction A with
    | nil => intro g _; rfl
    | cons y A ih =>
      intro g hg
      show dn_l g (A.length + 1) = y :: A
      rw [dn_s]
      have h0 := hg 0 (Nat.succ_pos _)
      have e0 : (y :: A).length - 1 - 0 = A.length := by simp
      rw [e0] at h0
      rw [h0]
      congr 1
      refine ih g fun p hp => ?_
      have h1 := hg (p + 1) (by simpa using hp)
      have e1 : (y :: A).length - 1 - (p + 1) = A.length - 1 - p := by simp; omega
      rw [e1] at h1
      rw [h1]
      rfl
  intro A
  refine key A _ fun p hp => ?_
  show la_ A (A.length - 1 - (A.length - 1 - p)) = la_ A p
  congr 1
  omega
def ot_O (ov : Nat → Int32) (i j : Nat) : Bool := decide (ov (41 * i + j) = 1)
def ot_R (R K : Nat → Int32) (ov : Nat → Int32) (i j : Nat) : Prop := ¬ R i = 0 ∧ ¬ R j = 0 ∧ (¬ R j = 1 ∨ K i = K j ∨ ∃ k, j < k ∧ k < i ∧ ot_O ov i k = true ∧ ot_O ov k j = true)
def ot_D (N : Nat) (R K : Nat → Int32) (ov : Nat → Int32) (u v : Nat) : Prop := ∀ i j, j < i → i < N → (i - j < u ∨ (i - j = u ∧ j < v)) → ov (41 * i + j) = mb_i (ot_O ov i j) ∧ (ot_O ov i j = true ↔ ot_R R K ov i j)
theorem ot_ix {i j a b : Nat} (hj : j < 41) (hb : b < 41) (h : 41 * i + j = 41 * a + b) : i = a ∧ j = b := by omega
theorem ot_mb (b : Bool) : decide (mb_i b = 1) = b := by cases b <;> decide
theorem ot_ne {ov : Nat → Int32} {i j a b : Nat} {x : Int32} (hj : j < 41) (hb : b < 41) (h : ¬ (i = a ∧ j = b)) : upd ov (41 * a + b) x (41 * i + j) = ov (41 * i + j) := by
  rw [upd, if_neg (fun q => h (ot_ix hj hb q))]
theorem ot_On {ov : Nat → Int32} {i j a b : Nat} {x : Int32} (hj : j < 41) (hb : b < 41) (h : ¬ (i = a ∧ j = b)) : ot_O (upd ov (41 * a + b) x) i j = ot_O ov i j := by
  unfold ot_O
  rw [ot_ne hj hb h]
theorem ot_Rn {R K ov : Nat → Int32} {i j a b : Nat} {x : Int32} (hi : i < 41) (hji : j < i) (ha : a < 41) (hba : b < a) (h : i - j ≤ a - b) : ot_R R K (upd ov (41 * a + b) x) i j ↔ ot_R R K ov i j := by
  have e : ∀ k, j < k → k < i → ot_O (upd ov (41 * a + b) x) i k = ot_O ov i k ∧ ot_O (upd ov (41 * a + b) x) k j = ot_O ov k j := fun k h1 h2 => ⟨ot_On (by omega) (by omega) (by omega), ot_On (by omega) (by omega) (by omega)⟩
  unfold ot_R
  refine and_congr Iff.rfl (and_congr Iff.rfl (or_congr Iff.rfl (or_congr Iff.rfl ⟨fun ⟨k, h1, h2, h3, h4⟩ => ⟨k, h1, h2, ?_, ?_⟩, fun ⟨k, h1, h2, h3, h4⟩ => ⟨k, h1, h2, ?_, ?_⟩⟩)))
  · rw [← (e k h1 h2).1]; exact h3
  · rw [← (e k h1 h2).2]; exact h4
  · rw [(e k h1 h2).1]; exact h3
  · rw [(e k h1 h2).2]; exact h4
theorem ot_up {N : Nat} {R K ov : Nat → Int32} {u v : Nat} (hN : N ≤ 41) (hu : 0 < u) (hv : v + u < N) (h : ot_D N R K ov u v) {b : Bool} (hb : b = true ↔ ot_R R K ov (v + u) v) : ot_D N R K (upd ov (41 * (v + u) + v) (mb_i b)) u (v + 1) := by
  intro i j hji hi hd
  by_cases he : i = v + u ∧ j = v
  · obtain ⟨rfl, rfl⟩ := he
    have e1 : upd ov (41 * (j + u) + j) (mb_i b) (41 * (j + u) + j) = mb_i b := by simp [upd]
    have e2 : ot_O (upd ov (41 * (j + u) + j) (mb_i b)) (j + u) j = b := by
      unfold ot_O
      rw [e1, ot_mb]
    rw [e2, e1]
    exact ⟨rfl, hb.trans (ot_Rn (by omega) (by omega) (by omega) (by omega) (Nat.le_refl _)).symm⟩
  · have h1 := h i j hji hi (by omega)
    rw [ot_On (by omega) (by omega) he, ot_ne (by omega) (by omega) he]
    exact ⟨h1.1, h1.2.trans (ot_Rn (by omega) hji (by omega) (by omega) (by omega)).symm⟩
theorem ot_nx {N : Nat} {R K ov : Nat → Int32} {u v : Nat} (hv : N ≤ v + u) (h : ot_D N R K ov u v) : ot_D N R K ov (u + 1) 0 := fun i j hji hi hd => h i j hji hi (by omega)
theorem ot_fin {N : Nat} {R K ov : Nat → Int32} {u : Nat} (hu : N ≤ u) (h : ot_D N R K ov u 0) : ov_t N R K (ot_O ov) ∧ ∀ i j, j < i → i < N → ov (41 * i + j) = mb_i (ot_O ov i j) := ⟨fun i j hji hi => (h i j hji hi (by omega)).2, fun i j hji hi => (h i j hji hi (by omega)).1⟩
theorem ot_0 {N : Nat} {R K ov : Nat → Int32} : ot_D N R K ov 1 0 := fun i j hji hi hd => by omega
end
section
section CH
variable {σ : sg_T} {n t : Int32} {g : Nat → Nat} {o : Option Nat} {N : Nat}
theorem dn_lt (hW : sg_W σ) (hd : ∀ d, o = some d → d < sg_nc σ) (hf : (ln_o (sg_pr σ) o).filterMap (fun c => sg_oo σ c n t) = dn_l g N) {i : Nat} (hi : i < N) : sg_oo σ (sg_mc σ (g i)) n t = some (g i) ∧ (∀ d, o = some d → sg_mc σ (g i) ≤ d) ∧ (ln_o (sg_pr σ) (sg_pr σ (sg_mc σ (g i)))).filterMap (fun c => sg_oo σ c n t) = dn_l g i :=
  dn_ln hW (sg_nc σ) o N (fun d hq => ⟨hd d hq, hd d hq⟩) hf i hi
theorem dn_dec (hW : sg_W σ) (hd : ∀ d, o = some d → d < sg_nc σ) (hf : (ln_o (sg_pr σ) o).filterMap (fun c => sg_oo σ c n t) = dn_l g N) {a b : Nat} (hab : a < b) (hb : b < N) : sg_mc σ (g a) < sg_mc σ (g b) := by
  obtain ⟨h1, -, h3⟩ := dn_lt hW hd hf hb
  have hgb := oo_some h1
  have hcb : sg_mc σ (g b) < sg_nc σ := hW.2.2.2.1 _ hgb.1
  have hd2 : ∀ d, sg_pr σ (sg_mc σ (g b)) = some d → d < sg_nc σ := fun d hq => Nat.lt_trans (hW.2.2.1 _ _ hcb hq) hcb
  obtain ⟨-, h5, -⟩ := dn_lt hW hd2 h3 hab
  cases hp : sg_pr σ (sg_mc σ (g b)) with
  | none =>
    rw [hp] at h3
    have := dn_nil h3
    omega
  | some d => exact Nat.lt_of_le_of_lt (h5 d hp) (hW.2.2.1 _ _ hcb hp)
theorem dn_inj (hW : sg_W σ) (hd : ∀ d, o = some d → d < sg_nc σ) (hf : (ln_o (sg_pr σ) o).filterMap (fun c => sg_oo σ c n t) = dn_l g N) : ∀ a b, a < N → b < N → g a = g b → a = b := by
  intro a b ha hb he
  rcases Nat.lt_trichotomy a b with h | h | h
  · have := dn_dec hW hd hf h hb
    rw [he] at this
    omega
  · exact h
  · have := dn_dec hW hd hf h ha
    rw [he] at this
    omega
theorem dn_has (hW : sg_W σ) (hf : (ln_o (sg_pr σ) o).filterMap (fun c => sg_oo σ c n t) = dn_l g N) {m : Nat} (hm : m < sg_nm σ) (hob : sg_ob σ m = true) (hn : sg_mn σ m = n) (ht : sg_ty σ m = t) (hc : sg_mc σ m ∈ ln_o (sg_pr σ) o) : ∃ j, j < N ∧ m = g j := by
  refine dn_mem.mp ?_
  rw [← hf]
  exact List.mem_filterMap.mpr ⟨sg_mc σ m, hc, oo_at hW hm rfl hob hn ht⟩
theorem dn_tab (hW : sg_W σ) (hd : ∀ d, o = some d → d < sg_nc σ) (hf : (ln_o (sg_pr σ) o).filterMap (fun c => sg_oo σ c n t) = dn_l g N) {R K : Nat → Int32} {O : Nat → Nat → Bool} (h : ov_t N R K O) (hR : ∀ k, k < N → R k = sg_rg σ (g k)) (hK : ∀ k, k < N → K k = sg_pk σ (sg_mc σ (g k))) {i j : Nat} (hj : j < i) (hi : i < N) : O i j = ov_r σ (sg_mc σ (g i)) n t (sg_rg σ (g i)) (g j) :=
  ov_eq h hi (hR i hi) (hK i hi) (fun k hk => hR k (by omega)) (fun k hk => hK k (by omega)) (fun k hk => (dn_lt hW hd hf (show k < N by omega)).1) (fun a b ha hb => dn_inj hW hd hf a b (by omega) (by omega)) (dn_lt hW hd hf hi).2.2 hj
end CH
theorem ov_rg {σ : sg_T} {c j : Nat} {n t r : Int32} (h : ov_r σ c n t r j = true) : ¬ sg_rg σ j = 0 := by
  unfold ov_r at h
  rw [Bool.and_eq_true, Bool.and_eq_true] at h
  exact of_decide_eq_true h.2.1
theorem fb_t {σ : sg_T} {c N j : Nat} {n t r : Int32} {g : Nat → Nat} (hf : (ln_o (sg_pr σ) (sg_pr σ c)).filterMap (fun c => sg_oo σ c n t) = dn_l g N) (hj : j < N) (h1 : ov_r σ c n t r (g j) = true) (h2 : sg_fn σ (g j) = true ∨ r < sg_rg σ (g j)) : sg_fb σ c n t false r = true := by
  unfold sg_fb
  rw [fb_any, hf, List.any_eq_true]
  refine ⟨g j, dn_mem.mpr ⟨j, hj, rfl⟩, ?_⟩
  have h3 := ov_rg h1
  rcases h2 with h2 | h2 <;> simp [h1, h2, h3]
theorem fb_f {σ : sg_T} {c N : Nat} {n t r : Int32} {g : Nat → Nat} (hf : (ln_o (sg_pr σ) (sg_pr σ c)).filterMap (fun c => sg_oo σ c n t) = dn_l g N) (h : ∀ j, j < N → ¬ (ov_r σ c n t r (g j) = true ∧ (sg_fn σ (g j) = true ∨ r < sg_rg σ (g j)))) : sg_fb σ c n t false r = false := by
  cases e : sg_fb σ c n t false r with
  | false => rfl
  | true =>
    unfold sg_fb at e
    rw [fb_any, hf, List.any_eq_true] at e
    obtain ⟨m, h1, h2⟩ := e
    obtain ⟨j, hj, rfl⟩ := dn_mem.mp h1
    simp at h2
    exact absurd ⟨h2.2.2, h2.2.1⟩ (h j hj)
theorem fh_at {σ : sg_T} (hW : sg_W σ) {m : Nat} (hm : m < sg_nm σ) (hk : sg_kd σ m = 0) : fi_c σ (sg_mn σ m) 0 4 (sg_mc σ m) = some m := by
  have ht : sg_ty σ m = 0 := by
    rcases hW.2.2.2.2.2.1 m hm with q | q | q
    · exact q.2
    · rw [hk] at q; exact absurd q (by decide)
    · rw [hk] at q; exact absurd q.1 (by decide)
  unfold fi_c
  rw [if_pos (by decide)]
  exact ow_is hW hm rfl hk rfl ht
theorem fh_c {σ : sg_T} {n : Int32} {d : Nat} : fi_c σ n 0 4 d = sg_ow σ d 0 n 0 := by
  unfold fi_c
  rw [if_pos (by decide)]
theorem ii_m {i : Nat} (h : 0 < i) : nI i + Int32.ofInt (-1) = nI (i - 1) := by
  obtain ⟨k, rfl⟩ : ∃ k, i = k + 1 := ⟨i - 1, by omega⟩
  exact pk_m1 k
theorem ov_no {σ : sg_T} {n t : Int32} {x : Nat} : ∀ (cs : List Nat) (L : List Int32), ¬ x ∈ cs → ov_l σ n t x L cs = false := by
  intro cs
  induction cs with
  | nil => intro L _; rfl
  | cons c cs ih =>
    intro L h
    unfold ov_l
    rw [if_neg (fun q => h (by rw [q]; exact List.mem_cons_self))]
    exact ih _ (fun q => h (List.mem_cons_of_mem _ q))
theorem ov_no2 {σ : sg_T} {c j : Nat} {n t r : Int32} (h : ¬ sg_mc σ j ∈ ln_o (sg_pr σ) (sg_pr σ c)) : ov_r σ c n t r j = false := by
  unfold ov_r
  rw [ov_no _ _ h]
  simp
end
